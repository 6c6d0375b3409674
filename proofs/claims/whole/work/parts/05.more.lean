/-! recover, die, replace, rebuild, power, check -/
def pz_mend (x : (Nat → pz_Dk) × pz_Su) (d : Nat) : (Nat → pz_Dk) × pz_Su := match pz_rb (x.1 d) with
  | none => x
  | some n => if n / 4 < pz_th (x.1 (pz_dn n)) then (va_up x.1 d (pz_dwr (x.1 d) (n / 4) (fun j => pz_rc (x.1 d) j ^^^ pz_R (x.1 (pz_dn n)) (16 * (n / 4) + j)) (pz_let 128 x.2).1), (pz_let 128 x.2).2) else x
def pz_rcv (x : (Nat → pz_Dk) × pz_Su) : Nat → (Nat → pz_Dk) × pz_Su
  | 0 => x
  | k + 1 => pz_mend (pz_rcv x k) k
theorem pz_rcv_s (x : (Nat → pz_Dk) × pz_Su) (k : Nat) : pz_rcv x (k + 1) = pz_mend (pz_rcv x k) k := rfl
theorem pz_let_keep (k : Nat) (x : pz_Su) : pz_pl (pz_let k x).2 = pz_pl x ∧ pz_pr (pz_let k x).2 = pz_pr x ∧ pz_cw (pz_let k x).2 = pz_cw x ∧ pz_cb (pz_let k x).2 = pz_cb x ∧ pz_fa (pz_let k x).2 = pz_fa x := by
  unfold pz_let
  split
  · exact ⟨rfl, rfl, rfl, rfl, rfl⟩
  · split <;> exact ⟨rfl, rfl, rfl, rfl, rfl⟩
theorem pz_let_nf (k : Nat) (x : pz_Su) (h1 : pz_fa x = false) (h2 : pz_on x = true) : (pz_let k x).1 = k ∧ pz_on (pz_let k x).2 = true := by
  unfold pz_let
  rw [if_neg (by rw [h2]; simp), if_neg (by rw [h1]; simp)]
  exact ⟨rfl, h2⟩
theorem pz_rcv_ok {x : (Nat → pz_Dk) × pz_Su} {M : Nat → Int64} {ex : Nat → Prop} (h : pz_IC x.1 M ex) : ∀ k, k ≤ 5 → pz_IC (pz_rcv x k).1 M (fun _ => True) ∧ (∀ d, pz_th ((pz_rcv x k).1 d) = pz_th (x.1 d) ∧ pz_dd ((pz_rcv x k).1 d) = pz_dd (x.1 d)) ∧
    (pz_pl (pz_rcv x k).2 = pz_pl x.2 ∧ pz_pr (pz_rcv x k).2 = pz_pr x.2 ∧ pz_cw (pz_rcv x k).2 = pz_cw x.2 ∧ pz_cb (pz_rcv x k).2 = pz_cb x.2 ∧ pz_fa (pz_rcv x k).2 = pz_fa x.2) ∧
    (pz_fa x.2 = false → pz_on x.2 = true → pz_on (pz_rcv x k).2 = true ∧ pz_IC (pz_rcv x k).1 M (fun e => k ≤ e))
  | 0, _ => ⟨h.ex fun _ _ _ => trivial, fun _ => ⟨rfl, rfl⟩, ⟨rfl, rfl, rfl, rfl, rfl⟩, fun _ h2 => ⟨h2, h.ex fun _ _ _ => Nat.zero_le _⟩⟩
  | k + 1, hk => by
    obtain ⟨i1, i2, i3, i4⟩ := pz_rcv_ok h k (by omega)
    rw [pz_rcv_s]
    generalize pz_rcv x k = r at i1 i2 i3 i4
    unfold pz_mend
    cases hr : pz_rb (r.1 k) with
    | none =>
      refine ⟨i1, i2, i3, fun g1 g2 => ?_⟩
      obtain ⟨j1, j2⟩ := i4 g1 g2
      refine ⟨j1, (j2.skip (d := k) fun n hn => ?_).ex fun e _ g => by omega⟩
      rw [hr] at hn; cases hn
    | some n =>
      by_cases c : n / 4 < pz_th (r.1 (pz_dn n))
      · simp only [if_pos c]
        have kp := pz_let_keep 128 r.2
        refine ⟨(i1.mend (by omega) hr c).1, fun d => ?_, ⟨kp.1.trans i3.1, kp.2.1.trans i3.2.1, kp.2.2.1.trans i3.2.2.1, kp.2.2.2.1.trans i3.2.2.2.1, kp.2.2.2.2.trans i3.2.2.2.2⟩, fun g1 g2 => ?_⟩
        · by_cases e : d = k
          · subst e; rw [pz_up_s]; exact i2 d
          · rw [pz_up_n _ _ e]; exact i2 d
        · obtain ⟨j1, j2⟩ := i4 g1 g2
          have nf := pz_let_nf 128 r.2 (i3.2.2.2.2.trans g1) j1
          refine ⟨nf.2, ((j2.mend (b := (pz_let 128 r.2).1) (by omega) hr c).2 (by rw [nf.1]; omega)).ex fun e _ g => by omega⟩
      · simp only [if_neg c]
        refine ⟨i1, i2, i3, fun g1 g2 => ?_⟩
        obtain ⟨j1, j2⟩ := i4 g1 g2
        refine ⟨j1, (j2.skip (d := k) fun m hm => ?_).ex fun e _ g => by omega⟩
        rw [hr] at hm; cases hm; exact c
def pz_mrec (x : pz_Mu) : pz_Mu := (pz_mM x, decide (pz_mF x ≠ 2), pz_ms x, pz_mf x, pz_mr x, 0, pz_mw x, pz_mc x)
theorem pz_Inv.rec {dk : Nat → pz_Dk} {su : pz_Su} {x : pz_Mu} (h : pz_Inv dk su x) : pz_Inv (pz_rcv (dk, pz_beg true (true, su.2)) 5).1 (pz_fgt (pz_end (pz_rcv (dk, pz_beg true (true, su.2)) 5).2)) (pz_mrec x) := by
  obtain ⟨h1, ⟨s1, s2, s3⟩, p1, p2, p3, p4, p5, p6⟩ := h
  obtain ⟨i1, i2, i3, i4⟩ := pz_rcv_ok (x := (dk, pz_beg true (true, su.2))) h1 5 (Nat.le_refl _)
  generalize pz_rcv (dk, pz_beg true (true, su.2)) 5 = r at i1 i2 i3 i4 ⊢
  have hfa : pz_fa r.2 = decide (pz_mF x = 2) := by
    rw [i3.2.2.2.2, p2]
    show (pz_pl su && (pz_pr su == true)) = _
    cases pz_pl su <;> cases pz_pr su <;> simp
  refine ⟨?_, ⟨fun d hd hne => ?_, fun d hd => ?_, s3⟩, ?_⟩
  · by_cases c : pz_mF x = 2
    · exact i1.ex fun _ _ _ => by simp [pz_mrec, c]
    · have f0 : pz_fa (pz_beg true (true, su.2)) = false := by rw [← i3.2.2.2.2, hfa]; simp [c]
      exact (i4 f0 rfl).2.ex fun e he g => by omega
  · rw [(i2 d).1, (i2 d).2]; exact s1 d hd hne
  · rw [(i2 d).1, (i2 d).2]; exact s2 d hd
  · by_cases c : pz_mF x = 2
    · have e : pz_end r.2 = (false, false, r.2.2.2.1, r.2.2.2.2.1, r.2.2.2.2.2.1, false, r.2.2.2.2.2.2.2) := by unfold pz_end; rw [if_pos (by rw [hfa]; simp [c])]
      rw [e]
      exact ⟨by simp [pz_mrec, c, pz_fgt], rfl, i3.2.2.1.trans p3, i3.2.2.2.1.trans p4, p5, p6⟩
    · have e : pz_end r.2 = r.2 := by unfold pz_end; rw [if_neg (by rw [hfa]; simp [c])]
      have f0 : pz_fa (pz_beg true (true, su.2)) = false := by rw [← i3.2.2.2.2, hfa]; simp [c]
      rw [e]
      exact ⟨((i4 f0 rfl).1).trans (by simp [pz_mrec, c]), rfl, i3.2.2.1.trans p3, i3.2.2.2.1.trans p4, p5, p6⟩
def pz_mdie (x : pz_Mu) (d : Nat) : pz_Mu := (pz_mM x, pz_mo x, some d, false, 0, x.2.2.2.2.2)
theorem pz_Inv.die {dk : Nat → pz_Dk} {su : pz_Su} {x : pz_Mu} (h : pz_Inv dk su x) (hon : pz_mo x = true) (hs : pz_ms x = none) {d : Nat} (hd : d < 5) {r f : Nat → Int64} : pz_Inv (va_up dk d (f, r, none, true, 0)) su (pz_mdie x d) := by
  have hIC := h.IC hon
  obtain ⟨h1, ⟨s1, s2, s3⟩, hp⟩ := h
  refine ⟨hIC.die.ex fun _ _ g => g.elim, ⟨fun e he hne => ?_, fun e he => ?_, fun g => by cases g⟩, hp⟩
  · have c : e ≠ d := fun c => hne (by rw [c]; rfl)
    rw [pz_up_n _ _ c]
    exact s1 e he (by rw [hs]; exact fun g => by cases g)
  · have c : d = e := Option.some.inj he
    subst c
    rw [pz_up_s]
    exact ⟨hd, by show 0 < 150; omega, rfl, rfl, fun _ => rfl⟩
def pz_mrep (x : pz_Mu) : pz_Mu := (pz_mM x, pz_mo x, pz_ms x, true, x.2.2.2.2)
theorem pz_Inv.rep {dk : Nat → pz_Dk} {su : pz_Su} {x : pz_Mu} (h : pz_Inv dk su x) {d : Nat} (hs : pz_ms x = some d) : pz_Inv (va_up dk d (pz_R (dk d), pz_rc (dk d), pz_rb (dk d), false, pz_th (dk d))) su (pz_mrep x) := by
  obtain ⟨h1, ⟨s1, s2, s3⟩, hp⟩ := h
  have key : ∀ e, pz_R (va_up dk d (pz_R (dk d), pz_rc (dk d), pz_rb (dk d), false, pz_th (dk d)) e) = pz_R (dk e) ∧ pz_rc (va_up dk d (pz_R (dk d), pz_rc (dk d), pz_rb (dk d), false, pz_th (dk d)) e) = pz_rc (dk e) ∧ pz_rb (va_up dk d (pz_R (dk d), pz_rc (dk d), pz_rb (dk d), false, pz_th (dk d)) e) = pz_rb (dk e) ∧ pz_th (va_up dk d (pz_R (dk d), pz_rc (dk d), pz_rb (dk d), false, pz_th (dk d)) e) = pz_th (dk e) := by
    intro e
    by_cases c : e = d
    · subst c; rw [pz_up_s]; exact ⟨rfl, rfl, rfl, rfl⟩
    · rw [pz_up_n _ _ c]; exact ⟨rfl, rfl, rfl, rfl⟩
  refine ⟨⟨fun e s he hsl hte => ?_, fun e n he hrb => ?_⟩, ⟨fun e he hne => ?_, fun e he => ?_, fun g => ?_⟩, hp⟩
  · rw [(key e).1, (key e).2.2.1]
    rw [(key e).2.2.2] at hte
    rcases h1.1 e s he hsl hte with g | ⟨g1, g2, n, g3, g4, g5⟩
    · exact Or.inl g
    · exact Or.inr ⟨g1, g2, n, g3, g4, by rw [(key _).2.2.2]; exact g5⟩
  · rw [(key e).2.2.1] at hrb
    rw [(key e).2.1, (key e).2.2.2]
    exact h1.2 e n he hrb
  · have c : e ≠ d := fun c => hne (by rw [c]; exact hs)
    rw [pz_up_n _ _ c]
    exact s1 e he hne
  · have c : d = e := Option.some.inj (hs.symm.trans he)
    subst c
    rw [pz_up_s]
    obtain ⟨k1, k2, k3, k4, k5⟩ := s2 d hs
    exact ⟨k1, k2, k3, rfl, fun g => by cases g⟩
  · rw [show pz_ms (pz_mrep x) = pz_ms x from rfl, hs] at g; cases g
def pz_mreb (x : pz_Mu) : pz_Mu := if pz_mr x + 1 = 150 then (pz_mM x, pz_mo x, none, false, 0, x.2.2.2.2.2) else (pz_mM x, pz_mo x, pz_ms x, pz_mf x, pz_mr x + 1, x.2.2.2.2.2)
theorem pz_Inv.reb {dk : Nat → pz_Dk} {su : pz_Su} {x : pz_Mu} (h : pz_Inv dk su x) (hon : pz_mo x = true) {d : Nat} (hs : pz_ms x = some d) (hf : pz_mf x = true) {row : Nat → Int64} (hrow : ∀ j, j < 16 → row j = pz_oth (fun e => pz_R (dk e) (16 * pz_th (dk d) + j)) d 5) :
    pz_Inv (va_up dk d (pz_wr (pz_R (dk d)) (pz_th (dk d)) row 128, (dk d).2.1, (dk d).2.2.1, (dk d).2.2.2.1, pz_th (dk d) + 1)) su (pz_mreb x) := by
  have hIC := h.IC hon
  obtain ⟨h1, ⟨s1, s2, s3⟩, hp⟩ := h
  obtain ⟨k1, k2, k3, k4, k5⟩ := s2 d hs
  have ho : ∀ e, e < 5 → e ≠ d → pz_th (dk e) = 150 := fun e he hne => (s1 e he (fun g => hne (Option.some.inj (g.symm.trans hs)))).1
  have hIC2 := hIC.reb (x := (pz_wr (pz_R (dk d)) (pz_th (dk d)) row 128, (dk d).2.1, (dk d).2.2.1, (dk d).2.2.2.1, pz_th (dk d) + 1)) k1 (by omega) ho (row := row) (fun j hj => by
    rw [hrow j hj]
    exact hIC.oth k1 (by omega) hj fun e he hne => by rw [ho e he hne]; omega) rfl
  have hdd : pz_dd (dk d) = false := by rw [k4, hf]; rfl
  unfold pz_mreb
  by_cases c : pz_mr x + 1 = 150
  · rw [if_pos c]
    refine ⟨hIC2.ex fun _ _ g => g.elim, ⟨fun e he hne => ?_, fun e he => (by cases he), fun _ => ⟨rfl, rfl⟩⟩, hp⟩
    by_cases ce : e = d
    · subst ce; rw [pz_up_s]; exact ⟨by show pz_th (dk e) + 1 = 150; omega, hdd⟩
    · rw [pz_up_n _ _ ce]; exact s1 e he (fun g => ce (Option.some.inj (g.symm.trans hs)))
  · rw [if_neg c]
    refine ⟨hIC2.ex fun _ _ g => g.elim, ⟨fun e he hne => ?_, fun e he => ?_, fun g => ?_⟩, hp⟩
    · have ce : e ≠ d := fun ce => hne (by rw [ce]; exact hs)
      rw [pz_up_n _ _ ce]; exact s1 e he hne
    · have ce : d = e := Option.some.inj (hs.symm.trans he)
      subst ce
      rw [pz_up_s]
      exact ⟨k1, by show pz_mr x + 1 < 150; omega, by show pz_th (dk d) + 1 = pz_mr x + 1; omega, k4, fun g => by rw [show pz_mf x = true from hf] at g; cases g⟩
    · rw [show pz_ms x = none from g] at hs; cases hs
def pz_mpow (x : pz_Mu) (k b : Nat) (r : Bool) : pz_Mu := (pz_mM x, pz_mo x, pz_ms x, pz_mf x, pz_mr x, (if r = true then 2 else 1), k, b)
theorem pz_Inv.pow {dk : Nat → pz_Dk} {su : pz_Su} {x : pz_Mu} (h : pz_Inv dk su x) {k b : Nat} (hk : k ≤ 10) (hb : b ≤ 200) (r : Bool) : pz_Inv dk (pz_on su, true, r, k, b, pz_fa su, pz_wc su) (pz_mpow x k b r) := by
  obtain ⟨h1, h2, p1, _⟩ := h
  exact ⟨h1, h2, p1, by cases r <;> rfl, rfl, rfl, hk, hb⟩
theorem pz_Inv.chk {dk : Nat → pz_Dk} {su : pz_Su} {x : pz_Mu} (h : pz_Inv dk su x) (hon : pz_mo x = true) (hs : pz_ms x = none) {s j : Nat} (hsl : s < 150) (hj : j < 16) : pz_R (dk (s % 5)) (16 * s + j) = pz_oth (fun e => pz_R (dk e) (16 * s + j)) (s % 5) 5 := by
  have hIC := h.IC hon
  have ho : ∀ e, e < 5 → s < pz_th (dk e) := fun e he => by
    rw [(h.2.1.1 e he (by rw [hs]; exact fun g => by cases g)).1]; omega
  rw [hIC.oth (by omega) hsl hj fun e he _ => ho e he]
  exact hIC.row (by omega) hsl (ho _ (by omega)) hj (Or.inl fun k => k)
theorem pz_mend_wc (x : (Nat → pz_Dk) × pz_Su) (d : Nat) (h : ∀ y : pz_Su, pz_wc (pz_let 128 y).2 ≤ pz_wc y + 1) : pz_wc (pz_mend x d).2 ≤ pz_wc x.2 + 1 := by
  unfold pz_mend
  cases pz_rb (x.1 d) with
  | none => exact Nat.le_succ _
  | some n =>
    dsimp only
    split
    · exact h x.2
    · exact Nat.le_succ _
theorem pz_IP.b {su : pz_Su} {on : Bool} {f w c : Nat} (h : pz_IP su on f w c) : pz_cw su ≤ 10 ∧ pz_cb su ≤ 200 := by
  obtain ⟨_, _, h3, h4, h5, h6⟩ := h
  omega
/-- the start -/
theorem pz_Inv.new {dk : Nat → pz_Dk} (h : ∀ d, d < 5 → dk d = (fun _ => 0, fun _ => 0, none, false, 150)) : pz_Inv dk (true, false, false, 0, 0, false, 0) (fun _ => 0, true, none, false, 0, 0, 0, 0) := by
  refine ⟨⟨fun d s hd hsl _ => ?_, fun d n hd hrb => ?_⟩, ⟨fun d hd _ => ?_, fun d hd => (by cases hd), fun _ => ⟨rfl, rfl⟩⟩, ⟨rfl, rfl, rfl, rfl, Nat.zero_le _, Nat.zero_le _⟩⟩
  · left
    intro j hj
    rw [h d hd]
    show (0 : Int64) = pz_C (fun _ => 0) d s j
    unfold pz_C
    split
    · show (0 : Int64) = 0 ^^^ 0 ^^^ 0 ^^^ 0
      decide
    · rfl
  · rw [h d hd] at hrb; cases hrb
  · rw [h d hd]; exact ⟨rfl, rfl⟩
