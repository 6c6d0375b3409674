/-! the reference: the other methods (laid by a program) -/
theorem pz_lt_succ {x : Int32} {n m : Nat} (hm : m = n + 1) (h : m < 2 ^ 31) : x ≤ nI n ↔ x < nI m := by
  subst hm
  rw [Int32.le_iff_toInt_le, Int32.lt_iff_toInt_lt, nI_toInt (by omega), nI_toInt h]; omega
def pz_isD (d : Int32) : Bool := decide (0 ≤ d ∧ d < nI 5)
def pz_isW (k b : Int32) : Bool := decide (0 ≤ k ∧ k < nI 11 ∧ 0 ≤ b ∧ b < nI 201)
theorem pz_isD_of {d : Int32} (h : pz_isD d = true) : ∃ d0 : Nat, d0 < 5 ∧ d = nI d0 := by
  obtain ⟨h1, h2⟩ := of_decide_eq_true h
  rcases pk_ix d (show 5 < 2 ^ 31 by decide) with a | a | ⟨d0, a1, a2⟩
  · exact absurd h1 (Int32.not_le.mpr a)
  · exact absurd h2 (Int32.not_lt.mpr a)
  · exact ⟨d0, a1, a2⟩
theorem pz_isD_nI {d0 : Nat} (h : d0 < 5) : pz_isD (nI d0) = true := decide_eq_true ⟨nI_pos' (by omega), nI_lt h (by decide)⟩
theorem pz_isW_of {k b : Int32} (h : pz_isW k b = true) : ∃ k0 b0 : Nat, k0 ≤ 10 ∧ b0 ≤ 200 ∧ k = nI k0 ∧ b = nI b0 := by
  obtain ⟨h1, h2, h3, h4⟩ := of_decide_eq_true h
  rcases pk_ix k (show 11 < 2 ^ 31 by decide) with a | a | ⟨k0, a1, a2⟩
  · exact absurd h1 (Int32.not_le.mpr a)
  · exact absurd h2 (Int32.not_lt.mpr a)
  · rcases pk_ix b (show 201 < 2 ^ 31 by decide) with c | c | ⟨b0, c1, c2⟩
    · exact absurd h3 (Int32.not_le.mpr c)
    · exact absurd h4 (Int32.not_lt.mpr c)
    · exact ⟨k0, b0, by omega, by omega, a2, c2⟩
theorem pz_isW_nI {k0 b0 : Nat} (h : k0 ≤ 10) (h2 : b0 ≤ 200) : pz_isW (nI k0) (nI b0) = true := decide_eq_true ⟨nI_pos' (by omega), nI_lt (by omega) (by decide), nI_pos' (by omega), nI_lt (by omega) (by decide)⟩
def pz_gD (x : pz_Mu) (d : Int32) : pz_Mu × Nat := if pz_isD d = false then (x, 1) else if pz_mo x = false ∨ pz_ms x ≠ none then (x, 2) else (pz_mdie x d.toNatClampNeg, 0)
def pz_gR (x : pz_Mu) : Int32 × pz_Mu × Nat := if pz_ms x = none ∨ pz_mf x = true then (nI 0, x, 1) else (pz_o (pz_ms x), pz_mrep x, 0)
def pz_gB (x : pz_Mu) : Int32 × pz_Mu × Nat := if pz_mo x = false ∨ pz_ms x = none ∨ pz_mf x = false then (nI 0, x, 1) else (nI (150 - (pz_mr x + 1)), pz_mreb x, 0)
def pz_gP (x : pz_Mu) (k b : Int32) (r : Bool) : pz_Mu × Nat := if pz_isW k b = false then (x, 1) else (pz_mpow x k.toNatClampNeg b.toNatClampNeg r, 0)
def pz_gT (x : pz_Mu) (w : Int32) : Int32 × Nat := if w < 0 ∨ nI 4 ≤ w then (nI 0, 1) else (if w = 0 then pz_b (pz_mo x) else if w = nI 1 then pz_o (pz_ms x) else if w = nI 2 then pz_b (pz_mf x) else nI (pz_mr x), 0)
set_option maxHeartbeats 4000000 in
set_option maxRecDepth 100000 in
theorem c_XM_die (l : Launch) (dC : Nat → ClassId) (dI : Nat → Nat → Nat) (sz : Nat) (h0 aB : Nat) (cB : ClassId) (f : Nat → Int32) (x : pz_Mu) (th : Nat) (d : Int32) (hm1 : pz_mr x ≤ 150) (hm2 : pz_mF x ≤ 2) (hm3 : pz_mw x ≤ 10) (hm4 : pz_mc x ≤ 200) (hm5 : ∀ e, pz_ms x = some e → e < 5) (hth : th < 10) : Met l yXM_die wsXM_die ({ frames := 0, cells := 0, slots := 0, locals := 0 }) (va_Pc [.ref h0, .int d] (fun U => U.heap.size = sz ∧ va_P (dC, dI) vwCl (pz_MW h0 aB cB f x th) U.heap ∧ va_K (dC, dI) vwCl [(cB, .byte)] U ∧ va_D (fun _ => True) (pz_MW h0 aB cB f x th))) (va_Qv (fun (u : pz_Mu × Nat × (Nat → Int32)) => (u.1, u.2.1) = pz_gD x d ∧ u.2.2 = f) (fun u t => va_P (dC, dI) vwCl (pz_MW h0 aB cB u.2.2 u.1 u.2.1) t.heap ∧ va_K (dC, dI) vwCl [(cB, .byte)] t ∧ va_D (va_A (pz_MW h0 aB cB f x th) sz) (pz_MW h0 aB cB u.2.2 u.1 u.2.1)) (va_A (pz_MW h0 aB cB f x th) sz)) 0 0 (va_A (pz_MW h0 aB cB f x th) sz) := by
  refine Met.ofW (cc := cXM_die) (maxL := 2) (ret := none) (by decide) rfl ?_
  intro p e s m args below meth c s₁ B hml hv
  obtain ⟨rfl, hsz, hP, hK, hD0⟩ := hv
  have hx := B.exec
  have hb := B.bytes
  have hr := B.returns
  have hts := atoms_spec (ws := wsXM_die) B.pre
  have hown : s.vm.findClass "ParityArrayModel" = some m.cls := findClass_of_methodNamed B.named
  have hlocks := B.notSynchronized
  subst hsz
  have hD := hD0.self (sz := s.heap.size)
  generalize hAe : va_A (pz_MW h0 aB cB f x th) s.heap.size = A at hD ⊢
  have hA : ∀ q : Nat, s.heap.size ≤ q → A q := fun q h => by rw [← hAe]; exact Or.inr h
  have hS : va_S A s.heap s.heap [] := va_S.rf
  have hl := lv_entry ([.ref h0, .int d]) (n := 2) (Nat.le_of_ble_eq_true rfl)
  rw [lg_entry_eq]
  generalize (lg_sl ([.ref h0, .int d]) ++ List.replicate (2 - (lg_sl ([.ref h0, .int d])).length) Slot.unset).toArray = ls at hl ⊢
  have hl : lv_has ls 2 [(0, .ref h0), (1, .int d)] := hl
  have hP : va_P (dC, dI) vwCl [(h0, .inr (3, [.ref aB, .int (pz_b (pz_mo x)), .int (pz_o (pz_ms x)), .int (pz_b (pz_mf x)), .int (nI (pz_mr x)), .int (nI (pz_mF x)), .int (nI (pz_mw x)), .int (nI (pz_mc x)), .int (nI th)])), (aB, .inl (cB, 76800, .inl f))] s.heap := hP
  have hD : va_D A [(h0, .inr (3, [.ref aB, .int (pz_b (pz_mo x)), .int (pz_o (pz_ms x)), .int (pz_b (pz_mf x)), .int (nI (pz_mr x)), .int (nI (pz_mF x)), .int (nI (pz_mw x)), .int (nI (pz_mc x)), .int (nI th)])), (aB, .inl (cB, 76800, .inl f))] := hD
  refine lv_aload_n hx hb dXM_die_0 rfl (lv_at hl 0 rfl) ?_
  refine lv_iload_n hx hb dXM_die_1 rfl (lv_at hl 1 rfl) ?_
  refine lv_if_lt (tgt := 10) hx hb dXM_die_2 (by decide) (fun hc => ?_) (fun hc => ?_)
  · refine lv_iconst (v := nI 1) hx hb dXM_die_10 (by decide) ?_
    refine lv_goto (tgt := 34) hx hb dXM_die_11 (by decide) ?_
    refine va_put (D := (dC, dI)) (ci := 3) (v := .int (nI 1)) (ty := .int) (C := "ParityArrayModel") (T := TXM) (N := 9) hx hb hts (fun w h => List.mem_cons_of_mem _ (inXM w h)) tyXM tyXM_ok nmXM hown hK hP hD hS 0 rfl rfl 8 (by decide) (hts _ (List.mem_cons_of_mem _ tw_399)) (fun _ h9 => h9) rfl (by decide +kernel) rfl rfl (Nat.le_of_ble_eq_true rfl) dXM_die_34 (fun H locs hP hD hS => ?_)
    have hP : va_P (dC, dI) vwCl [(h0, .inr (3, [.ref aB, .int (pz_b (pz_mo x)), .int (pz_o (pz_ms x)), .int (pz_b (pz_mf x)), .int (nI (pz_mr x)), .int (nI (pz_mF x)), .int (nI (pz_mw x)), .int (nI (pz_mc x)), .int (nI 1)])), (aB, .inl (cB, 76800, .inl f))] H := hP
    have hD : va_D A [(h0, .inr (3, [.ref aB, .int (pz_b (pz_mo x)), .int (pz_o (pz_ms x)), .int (pz_b (pz_mf x)), .int (nI (pz_mr x)), .int (nI (pz_mF x)), .int (nI (pz_mw x)), .int (nI (pz_mc x)), .int (nI 1)])), (aB, .inl (cB, 76800, .inl f))] := hD
    refine lv_aload_n hx hb dXM_die_37 rfl (lv_at hl 0 rfl) ?_
    refine va_get (D := (dC, dI)) (ci := 3) (v := .int (nI 1)) (C := "ParityArrayModel") (T := TXM) (N := 9) hx hb hts (fun w h => List.mem_cons_of_mem _ (inXM w h)) hown hK hP 0 rfl rfl 8 (by decide) (hts _ (List.mem_cons_of_mem _ tw_399)) (fun _ h9 => h9) rfl dXM_die_38 ?_
    refine lv_if_eq (tgt := 45) hx hb dXM_die_41 (by decide) (fun hc => absurd hc (by decide)) (fun _ => ?_)
    exact W.vret hx hb hr (fun t ht hW => ⟨⟨(x, 1, f), rfl, ⟨by unfold pz_gD; rw [if_pos (show pz_isD d = false from decide_eq_false (fun h9 => Int32.not_le.mpr hc h9.1))], rfl⟩, by rw [ht]; exact hP, va_K.moved hW.alike hK, hAe ▸ hD⟩, hS.F ht⟩) hS.2.2 dXM_die_44
  · have h1 := hc
    refine lv_iload_n hx hb dXM_die_5 rfl (lv_at hl 1 rfl) ?_
    refine lv_iconst (v := nI 4) hx hb dXM_die_6 (by decide) ?_
    refine lv_icmp_le (tgt := 14) hx hb dXM_die_7 (by decide) (fun hc => ?_) (fun hc => ?_)
    · obtain ⟨d0, hd0, rfl⟩ := pz_isD_of (decide_eq_true ⟨Int32.not_lt.mp h1, (pz_lt_succ rfl (by decide)).mp hc⟩ : pz_isD d = true)
      refine lv_aload_n hx hb dXM_die_14 rfl (lv_at hl 0 rfl) ?_
      refine va_get (D := (dC, dI)) (ci := 3) (v := .int (pz_b (pz_mo x))) (C := "ParityArrayModel") (T := TXM) (N := 9) hx hb hts (fun w h => List.mem_cons_of_mem _ (inXM w h)) hown hK hP 0 rfl rfl 1 (by decide) (hts _ (List.mem_cons_of_mem _ tw_392)) (fun _ h9 => h9) rfl dXM_die_15 ?_
      refine lv_if_eq (tgt := 29) hx hb dXM_die_18 (by decide) (fun hc => ?_) (fun hc => ?_)
      · have hc : (pz_mo x) = false := pz_b0.mp hc
        refine lv_iconst (v := nI 2) hx hb dXM_die_29 (by decide) ?_
        refine lv_goto (tgt := 34) hx hb dXM_die_30 (by decide) ?_
        refine va_put (D := (dC, dI)) (ci := 3) (v := .int (nI 2)) (ty := .int) (C := "ParityArrayModel") (T := TXM) (N := 9) hx hb hts (fun w h => List.mem_cons_of_mem _ (inXM w h)) tyXM tyXM_ok nmXM hown hK hP hD hS 0 rfl rfl 8 (by decide) (hts _ (List.mem_cons_of_mem _ tw_399)) (fun _ h9 => h9) rfl (by decide +kernel) rfl rfl (Nat.le_of_ble_eq_true rfl) dXM_die_34 (fun H locs hP hD hS => ?_)
        have hP : va_P (dC, dI) vwCl [(h0, .inr (3, [.ref aB, .int (pz_b (pz_mo x)), .int (pz_o (pz_ms x)), .int (pz_b (pz_mf x)), .int (nI (pz_mr x)), .int (nI (pz_mF x)), .int (nI (pz_mw x)), .int (nI (pz_mc x)), .int (nI 2)])), (aB, .inl (cB, 76800, .inl f))] H := hP
        have hD : va_D A [(h0, .inr (3, [.ref aB, .int (pz_b (pz_mo x)), .int (pz_o (pz_ms x)), .int (pz_b (pz_mf x)), .int (nI (pz_mr x)), .int (nI (pz_mF x)), .int (nI (pz_mw x)), .int (nI (pz_mc x)), .int (nI 2)])), (aB, .inl (cB, 76800, .inl f))] := hD
        refine lv_aload_n hx hb dXM_die_37 rfl (lv_at hl 0 rfl) ?_
        refine va_get (D := (dC, dI)) (ci := 3) (v := .int (nI 2)) (C := "ParityArrayModel") (T := TXM) (N := 9) hx hb hts (fun w h => List.mem_cons_of_mem _ (inXM w h)) hown hK hP 0 rfl rfl 8 (by decide) (hts _ (List.mem_cons_of_mem _ tw_399)) (fun _ h9 => h9) rfl dXM_die_38 ?_
        refine lv_if_eq (tgt := 45) hx hb dXM_die_41 (by decide) (fun hc => absurd hc (by decide)) (fun _ => ?_)
        exact W.vret hx hb hr (fun t ht hW => ⟨⟨(x, 2, f), rfl, ⟨by unfold pz_gD; rw [if_neg (by rw [pz_isD_nI hd0]; decide), if_pos (Or.inl hc)], rfl⟩, by rw [ht]; exact hP, va_K.moved hW.alike hK, hAe ▸ hD⟩, hS.F ht⟩) hS.2.2 dXM_die_44
      · have hc : (pz_mo x) = true := pz_bn hc
        have hon := hc
        refine lv_aload_n hx hb dXM_die_21 rfl (lv_at hl 0 rfl) ?_
        refine va_get (D := (dC, dI)) (ci := 3) (v := .int (pz_o (pz_ms x))) (C := "ParityArrayModel") (T := TXM) (N := 9) hx hb hts (fun w h => List.mem_cons_of_mem _ (inXM w h)) hown hK hP 0 rfl rfl 2 (by decide) (hts _ (List.mem_cons_of_mem _ tw_393)) (fun _ h9 => h9) rfl dXM_die_22 ?_
        refine lv_iconst (v := (-1)) hx hb dXM_die_25 (by decide) ?_
        refine lv_icmp_eq (tgt := 33) hx hb dXM_die_26 (by decide) (fun hc => ?_) (fun hc => ?_)
        · have hsk := (pz_om1 (pz_hm5 hm5)).mp hc
          refine lv_iconst (v := nI 0) hx hb dXM_die_33 (by decide) ?_
          refine va_put (D := (dC, dI)) (ci := 3) (v := .int (nI 0)) (ty := .int) (C := "ParityArrayModel") (T := TXM) (N := 9) hx hb hts (fun w h => List.mem_cons_of_mem _ (inXM w h)) tyXM tyXM_ok nmXM hown hK hP hD hS 0 rfl rfl 8 (by decide) (hts _ (List.mem_cons_of_mem _ tw_399)) (fun _ h9 => h9) rfl (by decide +kernel) rfl rfl (Nat.le_of_ble_eq_true rfl) dXM_die_34 (fun H locs hP hD hS => ?_)
          have hP : va_P (dC, dI) vwCl [(h0, .inr (3, [.ref aB, .int (pz_b (pz_mo x)), .int (pz_o (pz_ms x)), .int (pz_b (pz_mf x)), .int (nI (pz_mr x)), .int (nI (pz_mF x)), .int (nI (pz_mw x)), .int (nI (pz_mc x)), .int (nI 0)])), (aB, .inl (cB, 76800, .inl f))] H := hP
          have hD : va_D A [(h0, .inr (3, [.ref aB, .int (pz_b (pz_mo x)), .int (pz_o (pz_ms x)), .int (pz_b (pz_mf x)), .int (nI (pz_mr x)), .int (nI (pz_mF x)), .int (nI (pz_mw x)), .int (nI (pz_mc x)), .int (nI 0)])), (aB, .inl (cB, 76800, .inl f))] := hD
          refine lv_aload_n hx hb dXM_die_37 rfl (lv_at hl 0 rfl) ?_
          refine va_get (D := (dC, dI)) (ci := 3) (v := .int (nI 0)) (C := "ParityArrayModel") (T := TXM) (N := 9) hx hb hts (fun w h => List.mem_cons_of_mem _ (inXM w h)) hown hK hP 0 rfl rfl 8 (by decide) (hts _ (List.mem_cons_of_mem _ tw_399)) (fun _ h9 => h9) rfl dXM_die_38 ?_
          refine lv_if_eq (tgt := 45) hx hb dXM_die_41 (by decide) (fun _ => ?_) (fun hc => absurd hc (by decide))
          refine lv_aload_n hx hb dXM_die_45 rfl (lv_at hl 0 rfl) ?_
          refine lv_iload_n hx hb dXM_die_46 rfl (lv_at hl 1 rfl) ?_
          refine va_put (D := (dC, dI)) (ci := 3) (v := .int (nI d0)) (ty := .int) (C := "ParityArrayModel") (T := TXM) (N := 9) hx hb hts (fun w h => List.mem_cons_of_mem _ (inXM w h)) tyXM tyXM_ok nmXM hown hK hP hD hS 0 rfl rfl 2 (by decide) (hts _ (List.mem_cons_of_mem _ tw_393)) (fun _ h9 => h9) rfl (by decide +kernel) rfl rfl (Nat.le_of_ble_eq_true rfl) dXM_die_47 (fun H locs hP hD hS => ?_)
          have hP : va_P (dC, dI) vwCl [(h0, .inr (3, [.ref aB, .int (pz_b (pz_mo x)), .int (nI d0), .int (pz_b (pz_mf x)), .int (nI (pz_mr x)), .int (nI (pz_mF x)), .int (nI (pz_mw x)), .int (nI (pz_mc x)), .int (nI 0)])), (aB, .inl (cB, 76800, .inl f))] H := hP
          have hD : va_D A [(h0, .inr (3, [.ref aB, .int (pz_b (pz_mo x)), .int (nI d0), .int (pz_b (pz_mf x)), .int (nI (pz_mr x)), .int (nI (pz_mF x)), .int (nI (pz_mw x)), .int (nI (pz_mc x)), .int (nI 0)])), (aB, .inl (cB, 76800, .inl f))] := hD
          refine lv_aload_n hx hb dXM_die_50 rfl (lv_at hl 0 rfl) ?_
          refine lv_iconst (v := nI 0) hx hb dXM_die_51 (by decide) ?_
          refine va_put (D := (dC, dI)) (ci := 3) (v := .int (nI 0)) (ty := .boolean) (C := "ParityArrayModel") (T := TXM) (N := 9) hx hb hts (fun w h => List.mem_cons_of_mem _ (inXM w h)) tyXM tyXM_ok nmXM hown hK hP hD hS 0 rfl rfl 3 (by decide) (hts _ (List.mem_cons_of_mem _ tw_394)) (fun _ h9 => h9) rfl (by decide +kernel) rfl rfl (Nat.le_of_ble_eq_true rfl) dXM_die_52 (fun H locs hP hD hS => ?_)
          have hP : va_P (dC, dI) vwCl [(h0, .inr (3, [.ref aB, .int (pz_b (pz_mo x)), .int (nI d0), .int (pz_b false), .int (nI (pz_mr x)), .int (nI (pz_mF x)), .int (nI (pz_mw x)), .int (nI (pz_mc x)), .int (nI 0)])), (aB, .inl (cB, 76800, .inl f))] H := hP
          have hD : va_D A [(h0, .inr (3, [.ref aB, .int (pz_b (pz_mo x)), .int (nI d0), .int (pz_b false), .int (nI (pz_mr x)), .int (nI (pz_mF x)), .int (nI (pz_mw x)), .int (nI (pz_mc x)), .int (nI 0)])), (aB, .inl (cB, 76800, .inl f))] := hD
          refine lv_aload_n hx hb dXM_die_55 rfl (lv_at hl 0 rfl) ?_
          refine lv_iconst (v := nI 0) hx hb dXM_die_56 (by decide) ?_
          refine va_put (D := (dC, dI)) (ci := 3) (v := .int (nI 0)) (ty := .int) (C := "ParityArrayModel") (T := TXM) (N := 9) hx hb hts (fun w h => List.mem_cons_of_mem _ (inXM w h)) tyXM tyXM_ok nmXM hown hK hP hD hS 0 rfl rfl 4 (by decide) (hts _ (List.mem_cons_of_mem _ tw_395)) (fun _ h9 => h9) rfl (by decide +kernel) rfl rfl (Nat.le_of_ble_eq_true rfl) dXM_die_57 (fun H locs hP hD hS => ?_)
          have hP : va_P (dC, dI) vwCl [(h0, .inr (3, [.ref aB, .int (pz_b (pz_mo x)), .int (nI d0), .int (pz_b false), .int (nI 0), .int (nI (pz_mF x)), .int (nI (pz_mw x)), .int (nI (pz_mc x)), .int (nI 0)])), (aB, .inl (cB, 76800, .inl f))] H := hP
          have hD : va_D A [(h0, .inr (3, [.ref aB, .int (pz_b (pz_mo x)), .int (nI d0), .int (pz_b false), .int (nI 0), .int (nI (pz_mF x)), .int (nI (pz_mw x)), .int (nI (pz_mc x)), .int (nI 0)])), (aB, .inl (cB, 76800, .inl f))] := hD
          exact W.vret hx hb hr (fun t ht hW => ⟨⟨((pz_mM x, pz_mo x, some d0, false, 0, pz_mF x, pz_mw x, pz_mc x), 0, f), rfl, ⟨by unfold pz_gD; rw [if_neg (by rw [pz_isD_nI hd0]; decide), if_neg (by rw [hon, hsk]; decide), nI_clamp (by omega)]; rfl, rfl⟩, by rw [ht]; exact hP, va_K.moved hW.alike hK, hAe ▸ hD⟩, hS.F ht⟩) hS.2.2 dXM_die_60
        · refine lv_iconst (v := nI 2) hx hb dXM_die_29 (by decide) ?_
          refine lv_goto (tgt := 34) hx hb dXM_die_30 (by decide) ?_
          refine va_put (D := (dC, dI)) (ci := 3) (v := .int (nI 2)) (ty := .int) (C := "ParityArrayModel") (T := TXM) (N := 9) hx hb hts (fun w h => List.mem_cons_of_mem _ (inXM w h)) tyXM tyXM_ok nmXM hown hK hP hD hS 0 rfl rfl 8 (by decide) (hts _ (List.mem_cons_of_mem _ tw_399)) (fun _ h9 => h9) rfl (by decide +kernel) rfl rfl (Nat.le_of_ble_eq_true rfl) dXM_die_34 (fun H locs hP hD hS => ?_)
          have hP : va_P (dC, dI) vwCl [(h0, .inr (3, [.ref aB, .int (pz_b (pz_mo x)), .int (pz_o (pz_ms x)), .int (pz_b (pz_mf x)), .int (nI (pz_mr x)), .int (nI (pz_mF x)), .int (nI (pz_mw x)), .int (nI (pz_mc x)), .int (nI 2)])), (aB, .inl (cB, 76800, .inl f))] H := hP
          have hD : va_D A [(h0, .inr (3, [.ref aB, .int (pz_b (pz_mo x)), .int (pz_o (pz_ms x)), .int (pz_b (pz_mf x)), .int (nI (pz_mr x)), .int (nI (pz_mF x)), .int (nI (pz_mw x)), .int (nI (pz_mc x)), .int (nI 2)])), (aB, .inl (cB, 76800, .inl f))] := hD
          refine lv_aload_n hx hb dXM_die_37 rfl (lv_at hl 0 rfl) ?_
          refine va_get (D := (dC, dI)) (ci := 3) (v := .int (nI 2)) (C := "ParityArrayModel") (T := TXM) (N := 9) hx hb hts (fun w h => List.mem_cons_of_mem _ (inXM w h)) hown hK hP 0 rfl rfl 8 (by decide) (hts _ (List.mem_cons_of_mem _ tw_399)) (fun _ h9 => h9) rfl dXM_die_38 ?_
          refine lv_if_eq (tgt := 45) hx hb dXM_die_41 (by decide) (fun hc => absurd hc (by decide)) (fun _ => ?_)
          exact W.vret hx hb hr (fun t ht hW => ⟨⟨(x, 2, f), rfl, ⟨by unfold pz_gD; rw [if_neg (by rw [pz_isD_nI hd0]; decide), if_pos (Or.inr fun h9 => hc ((pz_om1 (pz_hm5 hm5)).mpr h9))], rfl⟩, by rw [ht]; exact hP, va_K.moved hW.alike hK, hAe ▸ hD⟩, hS.F ht⟩) hS.2.2 dXM_die_44
    · refine lv_iconst (v := nI 1) hx hb dXM_die_10 (by decide) ?_
      refine lv_goto (tgt := 34) hx hb dXM_die_11 (by decide) ?_
      refine va_put (D := (dC, dI)) (ci := 3) (v := .int (nI 1)) (ty := .int) (C := "ParityArrayModel") (T := TXM) (N := 9) hx hb hts (fun w h => List.mem_cons_of_mem _ (inXM w h)) tyXM tyXM_ok nmXM hown hK hP hD hS 0 rfl rfl 8 (by decide) (hts _ (List.mem_cons_of_mem _ tw_399)) (fun _ h9 => h9) rfl (by decide +kernel) rfl rfl (Nat.le_of_ble_eq_true rfl) dXM_die_34 (fun H locs hP hD hS => ?_)
      have hP : va_P (dC, dI) vwCl [(h0, .inr (3, [.ref aB, .int (pz_b (pz_mo x)), .int (pz_o (pz_ms x)), .int (pz_b (pz_mf x)), .int (nI (pz_mr x)), .int (nI (pz_mF x)), .int (nI (pz_mw x)), .int (nI (pz_mc x)), .int (nI 1)])), (aB, .inl (cB, 76800, .inl f))] H := hP
      have hD : va_D A [(h0, .inr (3, [.ref aB, .int (pz_b (pz_mo x)), .int (pz_o (pz_ms x)), .int (pz_b (pz_mf x)), .int (nI (pz_mr x)), .int (nI (pz_mF x)), .int (nI (pz_mw x)), .int (nI (pz_mc x)), .int (nI 1)])), (aB, .inl (cB, 76800, .inl f))] := hD
      refine lv_aload_n hx hb dXM_die_37 rfl (lv_at hl 0 rfl) ?_
      refine va_get (D := (dC, dI)) (ci := 3) (v := .int (nI 1)) (C := "ParityArrayModel") (T := TXM) (N := 9) hx hb hts (fun w h => List.mem_cons_of_mem _ (inXM w h)) hown hK hP 0 rfl rfl 8 (by decide) (hts _ (List.mem_cons_of_mem _ tw_399)) (fun _ h9 => h9) rfl dXM_die_38 ?_
      refine lv_if_eq (tgt := 45) hx hb dXM_die_41 (by decide) (fun hc => absurd hc (by decide)) (fun _ => ?_)
      exact W.vret hx hb hr (fun t ht hW => ⟨⟨(x, 1, f), rfl, ⟨by unfold pz_gD; rw [if_pos (show pz_isD d = false from decide_eq_false (fun h9 => hc ((pz_lt_succ rfl (by decide)).mpr h9.2)))], rfl⟩, by rw [ht]; exact hP, va_K.moved hW.alike hK, hAe ▸ hD⟩, hS.F ht⟩) hS.2.2 dXM_die_44

set_option maxHeartbeats 4000000 in
set_option maxRecDepth 100000 in
theorem c_XM_replace (l : Launch) (dC : Nat → ClassId) (dI : Nat → Nat → Nat) (sz : Nat) (h0 aB : Nat) (cB : ClassId) (f : Nat → Int32) (x : pz_Mu) (th : Nat) (hm1 : pz_mr x ≤ 150) (hm2 : pz_mF x ≤ 2) (hm3 : pz_mw x ≤ 10) (hm4 : pz_mc x ≤ 200) (hm5 : ∀ e, pz_ms x = some e → e < 5) (hth : th < 10) : Met l yXM_replace wsXM_replace ({ frames := 1, cells := 0, slots := 0, locals := 21 }) (va_Pc [.ref h0] (fun U => U.heap.size = sz ∧ va_P (dC, dI) vwCl (pz_MW h0 aB cB f x th) U.heap ∧ va_K (dC, dI) vwCl [(cB, .byte)] U ∧ va_D (fun _ => True) (pz_MW h0 aB cB f x th))) (va_Qi (fun (r : Int32) (u : pz_Mu × Nat × (Nat → Int32)) => (r, u.1, u.2.1) = pz_gR x ∧ u.2.2 = f) (fun u t => va_P (dC, dI) vwCl (pz_MW h0 aB cB u.2.2 u.1 u.2.1) t.heap ∧ va_K (dC, dI) vwCl [(cB, .byte)] t ∧ va_D (va_A (pz_MW h0 aB cB f x th) sz) (pz_MW h0 aB cB u.2.2 u.1 u.2.1)) (va_A (pz_MW h0 aB cB f x th) sz)) 0 0 (va_A (pz_MW h0 aB cB f x th) sz) := by
  refine Met.ofW (cc := cXM_replace) (maxL := 1) (ret := (some .int)) (by decide) rfl ?_
  intro p e s m args below meth c s₁ B hml hv
  obtain ⟨rfl, hsz, hP, hK, hD0⟩ := hv
  have hx := B.exec
  have hb := B.bytes
  have hr := B.returns
  have hts := atoms_spec (ws := wsXM_replace) B.pre
  have hown : s.vm.findClass "ParityArrayModel" = some m.cls := findClass_of_methodNamed B.named
  have hlocks := B.notSynchronized
  subst hsz
  have hD := hD0.self (sz := s.heap.size)
  generalize hAe : va_A (pz_MW h0 aB cB f x th) s.heap.size = A at hD ⊢
  have hA : ∀ q : Nat, s.heap.size ≤ q → A q := fun q h => by rw [← hAe]; exact Or.inr h
  have hS : va_S A s.heap s.heap [] := va_S.rf
  have hl := lv_entry ([.ref h0]) (n := 1) (Nat.le_of_ble_eq_true rfl)
  rw [lg_entry_eq]
  generalize (lg_sl ([.ref h0]) ++ List.replicate (1 - (lg_sl ([.ref h0])).length) Slot.unset).toArray = ls at hl ⊢
  have hl : lv_has ls 1 [(0, .ref h0)] := hl
  have hP : va_P (dC, dI) vwCl [(h0, .inr (3, [.ref aB, .int (pz_b (pz_mo x)), .int (pz_o (pz_ms x)), .int (pz_b (pz_mf x)), .int (nI (pz_mr x)), .int (nI (pz_mF x)), .int (nI (pz_mw x)), .int (nI (pz_mc x)), .int (nI th)])), (aB, .inl (cB, 76800, .inl f))] s.heap := hP
  have hD : va_D A [(h0, .inr (3, [.ref aB, .int (pz_b (pz_mo x)), .int (pz_o (pz_ms x)), .int (pz_b (pz_mf x)), .int (nI (pz_mr x)), .int (nI (pz_mF x)), .int (nI (pz_mw x)), .int (nI (pz_mc x)), .int (nI th)])), (aB, .inl (cB, 76800, .inl f))] := hD
  refine lv_aload_n hx hb dXM_replace_0 rfl (lv_at hl 0 rfl) ?_
  refine va_get (D := (dC, dI)) (ci := 3) (v := .int (pz_o (pz_ms x))) (C := "ParityArrayModel") (T := TXM) (N := 9) hx hb hts (fun w h => List.mem_cons_of_mem _ (inXM w h)) hown hK hP 0 rfl rfl 2 (by decide) (hts _ (List.mem_cons_of_mem _ tw_393)) (fun _ h9 => h9) rfl dXM_replace_1 ?_
  refine lv_iconst (v := (-1)) hx hb dXM_replace_4 (by decide) ?_
  refine lv_icmp_eq (tgt := 15) hx hb dXM_replace_5 (by decide) (fun hc => ?_) (fun hc => ?_)
  · refine lv_aload_n hx hb dXM_replace_15 rfl (lv_at hl 0 rfl) ?_
    refine lv_iconst (v := nI 1) hx hb dXM_replace_16 (by decide) ?_
    have hPc := hP
    have hDc := hD
    have hFc := va_free (wc := [(h0, .inr (3, [.ref aB, .int (pz_b (pz_mo x)), .int (pz_o (pz_ms x)), .int (pz_b (pz_mf x)), .int (nI (pz_mr x)), .int (nI (pz_mF x)), .int (nI (pz_mw x)), .int (nI (pz_mc x)), .int (nI th)])), (aB, .inl (cB, 76800, .inl f))]) hD hS hA [0, 1] rfl
    refine va_calli (va_runV (As := [.int (nI 1)]) (rest := []) ⟨hx, hb, hml, hown, hts⟩ (c_XM_fails l dC dI _ h0 aB cB f x th 1) (cwV 1 hts (pz_gc (List.mem_cons_of_mem _ tw_427) rfl (pz_gc (List.mem_cons_of_mem _ tw_429) rfl (pz_gc (List.mem_cons_of_mem _ ts_9) rfl (pz_gc (List.mem_cons_of_mem _ tw_4) rfl (pz_gi tcXM_fails))))) rfl rfl rfl (by decide +kernel) ⟨Nat.le_of_ble_eq_true rfl, Nat.le_of_ble_eq_true rfl⟩) (pz_preVw (va_recv hK hPc (q0 := 0) rfl rfl) hPc hK hDc) rfl rfl hl.1 rfl (lv_room (Nat.le_of_ble_eq_true rfl)) dXM_replace_17 ⟨Nat.zero_le _, Nat.zero_le _⟩) hS (fun q _ h => hFc q h) hFc (fun r u t H1 locs ht hvm hw hB hz hk1 hS => ?_)
    obtain ⟨hP1, hK1, hD1⟩ := hB
    rw [ht] at hP1
    obtain ⟨rfl, rfl⟩ := hw
    obtain ⟨hP, hD⟩ := va_join (wr := []) hP hD [0, 1] [] rfl rfl (by decide) (by decide) hk1 hFc hP1 hD1
    clear hPc hDc hFc hP1 hD1 hK1 hk1 hz ht hvm
    generalize H1 = H at hP hS ⊢
    have hP : va_P (dC, dI) vwCl [(h0, .inr (3, [.ref aB, .int (pz_b (pz_mo x)), .int (pz_o (pz_ms x)), .int (pz_b (pz_mf x)), .int (nI (pz_mr x)), .int (nI (pz_mF x)), .int (nI (pz_mw x)), .int (nI (pz_mc x)), .int (nI 1)])), (aB, .inl (cB, 76800, .inl f))] H := hP
    have hD : va_D A [(h0, .inr (3, [.ref aB, .int (pz_b (pz_mo x)), .int (pz_o (pz_ms x)), .int (pz_b (pz_mf x)), .int (nI (pz_mr x)), .int (nI (pz_mF x)), .int (nI (pz_mw x)), .int (nI (pz_mc x)), .int (nI 1)])), (aB, .inl (cB, 76800, .inl f))] := hD
    exact W.iret (v := nI 0) hx hb hr (fun t ht hW => ⟨⟨_, (x, 1, f), rfl, ⟨by unfold pz_gR; rw [if_pos (Or.inl ((pz_om1 (pz_hm5 hm5)).mp hc))], rfl⟩, by rw [ht]; exact hP, va_K.moved hW.alike hK, hAe ▸ hD⟩, hS.F ht⟩) hS.2.2 dXM_replace_20
  · have hsk : ¬ pz_ms x = none := fun h9 => hc ((pz_om1 (pz_hm5 hm5)).mpr h9)
    refine lv_aload_n hx hb dXM_replace_8 rfl (lv_at hl 0 rfl) ?_
    refine va_get (D := (dC, dI)) (ci := 3) (v := .int (pz_b (pz_mf x))) (C := "ParityArrayModel") (T := TXM) (N := 9) hx hb hts (fun w h => List.mem_cons_of_mem _ (inXM w h)) hown hK hP 0 rfl rfl 3 (by decide) (hts _ (List.mem_cons_of_mem _ tw_394)) (fun _ h9 => h9) rfl dXM_replace_9 ?_
    refine lv_if_eq (tgt := 21) hx hb dXM_replace_12 (by decide) (fun hc => ?_) (fun hc => ?_)
    · have hc : (pz_mf x) = false := pz_b0.mp hc
      refine lv_aload_n hx hb dXM_replace_21 rfl (lv_at hl 0 rfl) ?_
      refine lv_iconst (v := nI 0) hx hb dXM_replace_22 (by decide) ?_
      refine va_put (D := (dC, dI)) (ci := 3) (v := .int (nI 0)) (ty := .int) (C := "ParityArrayModel") (T := TXM) (N := 9) hx hb hts (fun w h => List.mem_cons_of_mem _ (inXM w h)) tyXM tyXM_ok nmXM hown hK hP hD hS 0 rfl rfl 8 (by decide) (hts _ (List.mem_cons_of_mem _ tw_399)) (fun _ h9 => h9) rfl (by decide +kernel) rfl rfl (Nat.le_of_ble_eq_true rfl) dXM_replace_23 (fun H locs hP hD hS => ?_)
      have hP : va_P (dC, dI) vwCl [(h0, .inr (3, [.ref aB, .int (pz_b (pz_mo x)), .int (pz_o (pz_ms x)), .int (pz_b (pz_mf x)), .int (nI (pz_mr x)), .int (nI (pz_mF x)), .int (nI (pz_mw x)), .int (nI (pz_mc x)), .int (nI 0)])), (aB, .inl (cB, 76800, .inl f))] H := hP
      have hD : va_D A [(h0, .inr (3, [.ref aB, .int (pz_b (pz_mo x)), .int (pz_o (pz_ms x)), .int (pz_b (pz_mf x)), .int (nI (pz_mr x)), .int (nI (pz_mF x)), .int (nI (pz_mw x)), .int (nI (pz_mc x)), .int (nI 0)])), (aB, .inl (cB, 76800, .inl f))] := hD
      refine lv_aload_n hx hb dXM_replace_26 rfl (lv_at hl 0 rfl) ?_
      refine lv_iconst (v := nI 1) hx hb dXM_replace_27 (by decide) ?_
      refine va_put (D := (dC, dI)) (ci := 3) (v := .int (nI 1)) (ty := .boolean) (C := "ParityArrayModel") (T := TXM) (N := 9) hx hb hts (fun w h => List.mem_cons_of_mem _ (inXM w h)) tyXM tyXM_ok nmXM hown hK hP hD hS 0 rfl rfl 3 (by decide) (hts _ (List.mem_cons_of_mem _ tw_394)) (fun _ h9 => h9) rfl (by decide +kernel) rfl rfl (Nat.le_of_ble_eq_true rfl) dXM_replace_28 (fun H locs hP hD hS => ?_)
      have hP : va_P (dC, dI) vwCl [(h0, .inr (3, [.ref aB, .int (pz_b (pz_mo x)), .int (pz_o (pz_ms x)), .int (pz_b true), .int (nI (pz_mr x)), .int (nI (pz_mF x)), .int (nI (pz_mw x)), .int (nI (pz_mc x)), .int (nI 0)])), (aB, .inl (cB, 76800, .inl f))] H := hP
      have hD : va_D A [(h0, .inr (3, [.ref aB, .int (pz_b (pz_mo x)), .int (pz_o (pz_ms x)), .int (pz_b true), .int (nI (pz_mr x)), .int (nI (pz_mF x)), .int (nI (pz_mw x)), .int (nI (pz_mc x)), .int (nI 0)])), (aB, .inl (cB, 76800, .inl f))] := hD
      refine lv_aload_n hx hb dXM_replace_31 rfl (lv_at hl 0 rfl) ?_
      refine va_get (D := (dC, dI)) (ci := 3) (v := .int (pz_o (pz_ms x))) (C := "ParityArrayModel") (T := TXM) (N := 9) hx hb hts (fun w h => List.mem_cons_of_mem _ (inXM w h)) hown hK hP 0 rfl rfl 2 (by decide) (hts _ (List.mem_cons_of_mem _ tw_393)) (fun _ h9 => h9) rfl dXM_replace_32 ?_
      exact W.iret (v := pz_o (pz_ms x)) hx hb hr (fun t ht hW => ⟨⟨_, ((pz_mM x, pz_mo x, pz_ms x, true, pz_mr x, pz_mF x, pz_mw x, pz_mc x), 0, f), rfl, ⟨by unfold pz_gR; rw [if_neg (fun h9 => h9.elim hsk (fun h => by rw [hc] at h; exact absurd h (by decide)))]; rfl, rfl⟩, by rw [ht]; exact hP, va_K.moved hW.alike hK, hAe ▸ hD⟩, hS.F ht⟩) hS.2.2 dXM_replace_35
    · have hc : (pz_mf x) = true := pz_bn hc
      refine lv_aload_n hx hb dXM_replace_15 rfl (lv_at hl 0 rfl) ?_
      refine lv_iconst (v := nI 1) hx hb dXM_replace_16 (by decide) ?_
      have hPc := hP
      have hDc := hD
      have hFc := va_free (wc := [(h0, .inr (3, [.ref aB, .int (pz_b (pz_mo x)), .int (pz_o (pz_ms x)), .int (pz_b (pz_mf x)), .int (nI (pz_mr x)), .int (nI (pz_mF x)), .int (nI (pz_mw x)), .int (nI (pz_mc x)), .int (nI th)])), (aB, .inl (cB, 76800, .inl f))]) hD hS hA [0, 1] rfl
      refine va_calli (va_runV (As := [.int (nI 1)]) (rest := []) ⟨hx, hb, hml, hown, hts⟩ (c_XM_fails l dC dI _ h0 aB cB f x th 1) (cwV 1 hts (pz_gc (List.mem_cons_of_mem _ tw_427) rfl (pz_gc (List.mem_cons_of_mem _ tw_429) rfl (pz_gc (List.mem_cons_of_mem _ ts_9) rfl (pz_gc (List.mem_cons_of_mem _ tw_4) rfl (pz_gi tcXM_fails))))) rfl rfl rfl (by decide +kernel) ⟨Nat.le_of_ble_eq_true rfl, Nat.le_of_ble_eq_true rfl⟩) (pz_preVw (va_recv hK hPc (q0 := 0) rfl rfl) hPc hK hDc) rfl rfl hl.1 rfl (lv_room (Nat.le_of_ble_eq_true rfl)) dXM_replace_17 ⟨Nat.zero_le _, Nat.zero_le _⟩) hS (fun q _ h => hFc q h) hFc (fun r u t H1 locs ht hvm hw hB hz hk1 hS => ?_)
      obtain ⟨hP1, hK1, hD1⟩ := hB
      rw [ht] at hP1
      obtain ⟨rfl, rfl⟩ := hw
      obtain ⟨hP, hD⟩ := va_join (wr := []) hP hD [0, 1] [] rfl rfl (by decide) (by decide) hk1 hFc hP1 hD1
      clear hPc hDc hFc hP1 hD1 hK1 hk1 hz ht hvm
      generalize H1 = H at hP hS ⊢
      have hP : va_P (dC, dI) vwCl [(h0, .inr (3, [.ref aB, .int (pz_b (pz_mo x)), .int (pz_o (pz_ms x)), .int (pz_b (pz_mf x)), .int (nI (pz_mr x)), .int (nI (pz_mF x)), .int (nI (pz_mw x)), .int (nI (pz_mc x)), .int (nI 1)])), (aB, .inl (cB, 76800, .inl f))] H := hP
      have hD : va_D A [(h0, .inr (3, [.ref aB, .int (pz_b (pz_mo x)), .int (pz_o (pz_ms x)), .int (pz_b (pz_mf x)), .int (nI (pz_mr x)), .int (nI (pz_mF x)), .int (nI (pz_mw x)), .int (nI (pz_mc x)), .int (nI 1)])), (aB, .inl (cB, 76800, .inl f))] := hD
      exact W.iret (v := nI 0) hx hb hr (fun t ht hW => ⟨⟨_, (x, 1, f), rfl, ⟨by unfold pz_gR; rw [if_pos (Or.inr hc)], rfl⟩, by rw [ht]; exact hP, va_K.moved hW.alike hK, hAe ▸ hD⟩, hS.F ht⟩) hS.2.2 dXM_replace_20

set_option maxHeartbeats 4000000 in
set_option maxRecDepth 100000 in
theorem c_XM_rebuild (l : Launch) (dC : Nat → ClassId) (dI : Nat → Nat → Nat) (sz : Nat) (h0 aB : Nat) (cB : ClassId) (f : Nat → Int32) (x : pz_Mu) (th : Nat) (hm1 : pz_mr x ≤ 150) (hm2 : pz_mF x ≤ 2) (hm3 : pz_mw x ≤ 10) (hm4 : pz_mc x ≤ 200) (hm5 : ∀ e, pz_ms x = some e → e < 5) (hth : th < 10) (hm6 : pz_ms x ≠ none → pz_mr x < 150) : Met l yXM_rebuild wsXM_rebuild ({ frames := 1, cells := 0, slots := 0, locals := 21 }) (va_Pc [.ref h0] (fun U => U.heap.size = sz ∧ va_P (dC, dI) vwCl (pz_MW h0 aB cB f x th) U.heap ∧ va_K (dC, dI) vwCl [(cB, .byte)] U ∧ va_D (fun _ => True) (pz_MW h0 aB cB f x th))) (va_Qi (fun (r : Int32) (u : pz_Mu × Nat × (Nat → Int32)) => (r, u.1, u.2.1) = pz_gB x ∧ u.2.2 = f) (fun u t => va_P (dC, dI) vwCl (pz_MW h0 aB cB u.2.2 u.1 u.2.1) t.heap ∧ va_K (dC, dI) vwCl [(cB, .byte)] t ∧ va_D (va_A (pz_MW h0 aB cB f x th) sz) (pz_MW h0 aB cB u.2.2 u.1 u.2.1)) (va_A (pz_MW h0 aB cB f x th) sz)) 0 0 (va_A (pz_MW h0 aB cB f x th) sz) := by
  refine Met.ofW (cc := cXM_rebuild) (maxL := 2) (ret := (some .int)) (by decide) rfl ?_
  intro p e s m args below meth c s₁ B hml hv
  obtain ⟨rfl, hsz, hP, hK, hD0⟩ := hv
  have hx := B.exec
  have hb := B.bytes
  have hr := B.returns
  have hts := atoms_spec (ws := wsXM_rebuild) B.pre
  have hown : s.vm.findClass "ParityArrayModel" = some m.cls := findClass_of_methodNamed B.named
  have hlocks := B.notSynchronized
  subst hsz
  have hD := hD0.self (sz := s.heap.size)
  generalize hAe : va_A (pz_MW h0 aB cB f x th) s.heap.size = A at hD ⊢
  have hA : ∀ q : Nat, s.heap.size ≤ q → A q := fun q h => by rw [← hAe]; exact Or.inr h
  have hS : va_S A s.heap s.heap [] := va_S.rf
  have hl := lv_entry ([.ref h0]) (n := 2) (Nat.le_of_ble_eq_true rfl)
  rw [lg_entry_eq]
  generalize (lg_sl ([.ref h0]) ++ List.replicate (2 - (lg_sl ([.ref h0])).length) Slot.unset).toArray = ls at hl ⊢
  have hl : lv_has ls 2 [(0, .ref h0)] := hl
  have hP : va_P (dC, dI) vwCl [(h0, .inr (3, [.ref aB, .int (pz_b (pz_mo x)), .int (pz_o (pz_ms x)), .int (pz_b (pz_mf x)), .int (nI (pz_mr x)), .int (nI (pz_mF x)), .int (nI (pz_mw x)), .int (nI (pz_mc x)), .int (nI th)])), (aB, .inl (cB, 76800, .inl f))] s.heap := hP
  have hD : va_D A [(h0, .inr (3, [.ref aB, .int (pz_b (pz_mo x)), .int (pz_o (pz_ms x)), .int (pz_b (pz_mf x)), .int (nI (pz_mr x)), .int (nI (pz_mF x)), .int (nI (pz_mw x)), .int (nI (pz_mc x)), .int (nI th)])), (aB, .inl (cB, 76800, .inl f))] := hD
  refine lv_aload_n hx hb dXM_rebuild_0 rfl (lv_at hl 0 rfl) ?_
  refine va_get (D := (dC, dI)) (ci := 3) (v := .int (pz_b (pz_mo x))) (C := "ParityArrayModel") (T := TXM) (N := 9) hx hb hts (fun w h => List.mem_cons_of_mem _ (inXM w h)) hown hK hP 0 rfl rfl 1 (by decide) (hts _ (List.mem_cons_of_mem _ tw_392)) (fun _ h9 => h9) rfl dXM_rebuild_1 ?_
  refine lv_if_eq (tgt := 22) hx hb dXM_rebuild_4 (by decide) (fun hc => ?_) (fun hc => ?_)
  · have hc : (pz_mo x) = false := pz_b0.mp hc
    refine lv_aload_n hx hb dXM_rebuild_22 rfl (lv_at hl 0 rfl) ?_
    refine lv_iconst (v := nI 1) hx hb dXM_rebuild_23 (by decide) ?_
    have hPc := hP
    have hDc := hD
    have hFc := va_free (wc := [(h0, .inr (3, [.ref aB, .int (pz_b (pz_mo x)), .int (pz_o (pz_ms x)), .int (pz_b (pz_mf x)), .int (nI (pz_mr x)), .int (nI (pz_mF x)), .int (nI (pz_mw x)), .int (nI (pz_mc x)), .int (nI th)])), (aB, .inl (cB, 76800, .inl f))]) hD hS hA [0, 1] rfl
    refine va_calli (va_runV (As := [.int (nI 1)]) (rest := []) ⟨hx, hb, hml, hown, hts⟩ (c_XM_fails l dC dI _ h0 aB cB f x th 1) (cwV 1 hts (pz_gc (List.mem_cons_of_mem _ tw_427) rfl (pz_gc (List.mem_cons_of_mem _ tw_429) rfl (pz_gc (List.mem_cons_of_mem _ ts_9) rfl (pz_gc (List.mem_cons_of_mem _ tw_4) rfl (pz_gi tcXM_fails))))) rfl rfl rfl (by decide +kernel) ⟨Nat.le_of_ble_eq_true rfl, Nat.le_of_ble_eq_true rfl⟩) (pz_preVw (va_recv hK hPc (q0 := 0) rfl rfl) hPc hK hDc) rfl rfl hl.1 rfl (lv_room (Nat.le_of_ble_eq_true rfl)) dXM_rebuild_24 ⟨Nat.zero_le _, Nat.zero_le _⟩) hS (fun q _ h => hFc q h) hFc (fun r u t H1 locs ht hvm hw hB hz hk1 hS => ?_)
    obtain ⟨hP1, hK1, hD1⟩ := hB
    rw [ht] at hP1
    obtain ⟨rfl, rfl⟩ := hw
    obtain ⟨hP, hD⟩ := va_join (wr := []) hP hD [0, 1] [] rfl rfl (by decide) (by decide) hk1 hFc hP1 hD1
    clear hPc hDc hFc hP1 hD1 hK1 hk1 hz ht hvm
    generalize H1 = H at hP hS ⊢
    have hP : va_P (dC, dI) vwCl [(h0, .inr (3, [.ref aB, .int (pz_b (pz_mo x)), .int (pz_o (pz_ms x)), .int (pz_b (pz_mf x)), .int (nI (pz_mr x)), .int (nI (pz_mF x)), .int (nI (pz_mw x)), .int (nI (pz_mc x)), .int (nI 1)])), (aB, .inl (cB, 76800, .inl f))] H := hP
    have hD : va_D A [(h0, .inr (3, [.ref aB, .int (pz_b (pz_mo x)), .int (pz_o (pz_ms x)), .int (pz_b (pz_mf x)), .int (nI (pz_mr x)), .int (nI (pz_mF x)), .int (nI (pz_mw x)), .int (nI (pz_mc x)), .int (nI 1)])), (aB, .inl (cB, 76800, .inl f))] := hD
    exact W.iret (v := nI 0) hx hb hr (fun t ht hW => ⟨⟨_, (x, 1, f), rfl, ⟨by unfold pz_gB; rw [if_pos (Or.inl hc)], rfl⟩, by rw [ht]; exact hP, va_K.moved hW.alike hK, hAe ▸ hD⟩, hS.F ht⟩) hS.2.2 dXM_rebuild_27
  · have hc : (pz_mo x) = true := pz_bn hc
    have hon := hc
    refine lv_aload_n hx hb dXM_rebuild_7 rfl (lv_at hl 0 rfl) ?_
    refine va_get (D := (dC, dI)) (ci := 3) (v := .int (pz_o (pz_ms x))) (C := "ParityArrayModel") (T := TXM) (N := 9) hx hb hts (fun w h => List.mem_cons_of_mem _ (inXM w h)) hown hK hP 0 rfl rfl 2 (by decide) (hts _ (List.mem_cons_of_mem _ tw_393)) (fun _ h9 => h9) rfl dXM_rebuild_8 ?_
    refine lv_iconst (v := (-1)) hx hb dXM_rebuild_11 (by decide) ?_
    refine lv_icmp_eq (tgt := 22) hx hb dXM_rebuild_12 (by decide) (fun hc => ?_) (fun hc => ?_)
    · refine lv_aload_n hx hb dXM_rebuild_22 rfl (lv_at hl 0 rfl) ?_
      refine lv_iconst (v := nI 1) hx hb dXM_rebuild_23 (by decide) ?_
      have hPc := hP
      have hDc := hD
      have hFc := va_free (wc := [(h0, .inr (3, [.ref aB, .int (pz_b (pz_mo x)), .int (pz_o (pz_ms x)), .int (pz_b (pz_mf x)), .int (nI (pz_mr x)), .int (nI (pz_mF x)), .int (nI (pz_mw x)), .int (nI (pz_mc x)), .int (nI th)])), (aB, .inl (cB, 76800, .inl f))]) hD hS hA [0, 1] rfl
      refine va_calli (va_runV (As := [.int (nI 1)]) (rest := []) ⟨hx, hb, hml, hown, hts⟩ (c_XM_fails l dC dI _ h0 aB cB f x th 1) (cwV 1 hts (pz_gc (List.mem_cons_of_mem _ tw_427) rfl (pz_gc (List.mem_cons_of_mem _ tw_429) rfl (pz_gc (List.mem_cons_of_mem _ ts_9) rfl (pz_gc (List.mem_cons_of_mem _ tw_4) rfl (pz_gi tcXM_fails))))) rfl rfl rfl (by decide +kernel) ⟨Nat.le_of_ble_eq_true rfl, Nat.le_of_ble_eq_true rfl⟩) (pz_preVw (va_recv hK hPc (q0 := 0) rfl rfl) hPc hK hDc) rfl rfl hl.1 rfl (lv_room (Nat.le_of_ble_eq_true rfl)) dXM_rebuild_24 ⟨Nat.zero_le _, Nat.zero_le _⟩) hS (fun q _ h => hFc q h) hFc (fun r u t H1 locs ht hvm hw hB hz hk1 hS => ?_)
      obtain ⟨hP1, hK1, hD1⟩ := hB
      rw [ht] at hP1
      obtain ⟨rfl, rfl⟩ := hw
      obtain ⟨hP, hD⟩ := va_join (wr := []) hP hD [0, 1] [] rfl rfl (by decide) (by decide) hk1 hFc hP1 hD1
      clear hPc hDc hFc hP1 hD1 hK1 hk1 hz ht hvm
      generalize H1 = H at hP hS ⊢
      have hP : va_P (dC, dI) vwCl [(h0, .inr (3, [.ref aB, .int (pz_b (pz_mo x)), .int (pz_o (pz_ms x)), .int (pz_b (pz_mf x)), .int (nI (pz_mr x)), .int (nI (pz_mF x)), .int (nI (pz_mw x)), .int (nI (pz_mc x)), .int (nI 1)])), (aB, .inl (cB, 76800, .inl f))] H := hP
      have hD : va_D A [(h0, .inr (3, [.ref aB, .int (pz_b (pz_mo x)), .int (pz_o (pz_ms x)), .int (pz_b (pz_mf x)), .int (nI (pz_mr x)), .int (nI (pz_mF x)), .int (nI (pz_mw x)), .int (nI (pz_mc x)), .int (nI 1)])), (aB, .inl (cB, 76800, .inl f))] := hD
      exact W.iret (v := nI 0) hx hb hr (fun t ht hW => ⟨⟨_, (x, 1, f), rfl, ⟨by unfold pz_gB; rw [if_pos (Or.inr (Or.inl ((pz_om1 (pz_hm5 hm5)).mp hc)))], rfl⟩, by rw [ht]; exact hP, va_K.moved hW.alike hK, hAe ▸ hD⟩, hS.F ht⟩) hS.2.2 dXM_rebuild_27
    · have hsk : ¬ pz_ms x = none := fun h9 => hc ((pz_om1 (pz_hm5 hm5)).mpr h9)
      have hlt := hm6 hsk
      refine lv_aload_n hx hb dXM_rebuild_15 rfl (lv_at hl 0 rfl) ?_
      refine va_get (D := (dC, dI)) (ci := 3) (v := .int (pz_b (pz_mf x))) (C := "ParityArrayModel") (T := TXM) (N := 9) hx hb hts (fun w h => List.mem_cons_of_mem _ (inXM w h)) hown hK hP 0 rfl rfl 3 (by decide) (hts _ (List.mem_cons_of_mem _ tw_394)) (fun _ h9 => h9) rfl dXM_rebuild_16 ?_
      refine lv_if_ne (tgt := 28) hx hb dXM_rebuild_19 (by decide) (fun hc => ?_) (fun hc => ?_)
      · have hc : (pz_mf x) = true := pz_bn hc
        have hfr := hc
        have hn : ¬ (pz_mo x = false ∨ pz_ms x = none ∨ pz_mf x = false) := by rw [hon, hfr]; exact fun h9 => h9.elim (fun h => absurd h (by decide)) (fun h => h.elim hsk (fun h => absurd h (by decide)))
        refine lv_aload_n hx hb dXM_rebuild_28 rfl (lv_at hl 0 rfl) ?_
        refine lv_iconst (v := nI 0) hx hb dXM_rebuild_29 (by decide) ?_
        refine va_put (D := (dC, dI)) (ci := 3) (v := .int (nI 0)) (ty := .int) (C := "ParityArrayModel") (T := TXM) (N := 9) hx hb hts (fun w h => List.mem_cons_of_mem _ (inXM w h)) tyXM tyXM_ok nmXM hown hK hP hD hS 0 rfl rfl 8 (by decide) (hts _ (List.mem_cons_of_mem _ tw_399)) (fun _ h9 => h9) rfl (by decide +kernel) rfl rfl (Nat.le_of_ble_eq_true rfl) dXM_rebuild_30 (fun H locs hP hD hS => ?_)
        have hP : va_P (dC, dI) vwCl [(h0, .inr (3, [.ref aB, .int (pz_b (pz_mo x)), .int (pz_o (pz_ms x)), .int (pz_b (pz_mf x)), .int (nI (pz_mr x)), .int (nI (pz_mF x)), .int (nI (pz_mw x)), .int (nI (pz_mc x)), .int (nI 0)])), (aB, .inl (cB, 76800, .inl f))] H := hP
        have hD : va_D A [(h0, .inr (3, [.ref aB, .int (pz_b (pz_mo x)), .int (pz_o (pz_ms x)), .int (pz_b (pz_mf x)), .int (nI (pz_mr x)), .int (nI (pz_mF x)), .int (nI (pz_mw x)), .int (nI (pz_mc x)), .int (nI 0)])), (aB, .inl (cB, 76800, .inl f))] := hD
        refine lv_aload_n hx hb dXM_rebuild_33 rfl (lv_at hl 0 rfl) ?_
        refine lv_dup hx hb dXM_rebuild_34 rfl ?_
        refine va_get (D := (dC, dI)) (ci := 3) (v := .int (nI (pz_mr x))) (C := "ParityArrayModel") (T := TXM) (N := 9) hx hb hts (fun w h => List.mem_cons_of_mem _ (inXM w h)) hown hK hP 0 rfl rfl 4 (by decide) (hts _ (List.mem_cons_of_mem _ tw_395)) (fun _ h9 => h9) rfl dXM_rebuild_35 ?_
        refine lv_iconst (v := nI 1) hx hb dXM_rebuild_38 (by decide) ?_
        refine lv_iadd hx hb dXM_rebuild_39 ?_
        refine lv_topi (nm_r (nI_add (pz_mr x) 1) ?_)
        refine va_put (D := (dC, dI)) (ci := 3) (v := .int (nI ((pz_mr x) + 1))) (ty := .int) (C := "ParityArrayModel") (T := TXM) (N := 9) hx hb hts (fun w h => List.mem_cons_of_mem _ (inXM w h)) tyXM tyXM_ok nmXM hown hK hP hD hS 0 rfl rfl 4 (by decide) (hts _ (List.mem_cons_of_mem _ tw_395)) (fun _ h9 => h9) rfl (by decide +kernel) rfl rfl (Nat.le_of_ble_eq_true rfl) dXM_rebuild_40 (fun H locs hP hD hS => ?_)
        have hP : va_P (dC, dI) vwCl [(h0, .inr (3, [.ref aB, .int (pz_b (pz_mo x)), .int (pz_o (pz_ms x)), .int (pz_b (pz_mf x)), .int (nI ((pz_mr x) + 1)), .int (nI (pz_mF x)), .int (nI (pz_mw x)), .int (nI (pz_mc x)), .int (nI 0)])), (aB, .inl (cB, 76800, .inl f))] H := hP
        have hD : va_D A [(h0, .inr (3, [.ref aB, .int (pz_b (pz_mo x)), .int (pz_o (pz_ms x)), .int (pz_b (pz_mf x)), .int (nI ((pz_mr x) + 1)), .int (nI (pz_mF x)), .int (nI (pz_mw x)), .int (nI (pz_mc x)), .int (nI 0)])), (aB, .inl (cB, 76800, .inl f))] := hD
        refine lv_sipush (v := nI 150) hx hb dXM_rebuild_43 (by decide) ?_
        refine lv_aload_n hx hb dXM_rebuild_46 rfl (lv_at hl 0 rfl) ?_
        refine va_get (D := (dC, dI)) (ci := 3) (v := .int (nI ((pz_mr x) + 1))) (C := "ParityArrayModel") (T := TXM) (N := 9) hx hb hts (fun w h => List.mem_cons_of_mem _ (inXM w h)) hown hK hP 0 rfl rfl 4 (by decide) (hts _ (List.mem_cons_of_mem _ tw_395)) (fun _ h9 => h9) rfl dXM_rebuild_47 ?_
        refine lv_isub hx hb dXM_rebuild_50 ?_
        refine lv_topi (nm_r (pk_sub (by omega)) ?_)
        refine lv_istore_n hx hb dXM_rebuild_51 rfl hl (by decide) rfl (fun ls hl => ?_)
        have hl : lv_has ls 2 [(1, .int (nI (150 - ((pz_mr x) + 1)))), (0, .ref h0)] := hl
        refine lv_iload_n hx hb dXM_rebuild_52 rfl (lv_at hl 0 rfl) ?_
        refine lv_if_le (tgt := 58) hx hb dXM_rebuild_53 (by decide) (fun hc => ?_) (fun hc => ?_)
        · have hc : (150 - ((pz_mr x) + 1)) ≤ 0 := (nI_leI (a := (150 - ((pz_mr x) + 1))) (b := 0) (by omega) (by omega)).mp hc
          refine lv_aload_n hx hb dXM_rebuild_58 rfl (lv_at hl 1 rfl) ?_
          refine lv_iconst (v := (-1)) hx hb dXM_rebuild_59 (by decide) ?_
          refine va_put (D := (dC, dI)) (ci := 3) (v := .int (-1)) (ty := .int) (C := "ParityArrayModel") (T := TXM) (N := 9) hx hb hts (fun w h => List.mem_cons_of_mem _ (inXM w h)) tyXM tyXM_ok nmXM hown hK hP hD hS 0 rfl rfl 2 (by decide) (hts _ (List.mem_cons_of_mem _ tw_393)) (fun _ h9 => h9) rfl (by decide +kernel) rfl rfl (Nat.le_of_ble_eq_true rfl) dXM_rebuild_60 (fun H locs hP hD hS => ?_)
          have hP : va_P (dC, dI) vwCl [(h0, .inr (3, [.ref aB, .int (pz_b (pz_mo x)), .int (-1), .int (pz_b (pz_mf x)), .int (nI ((pz_mr x) + 1)), .int (nI (pz_mF x)), .int (nI (pz_mw x)), .int (nI (pz_mc x)), .int (nI 0)])), (aB, .inl (cB, 76800, .inl f))] H := hP
          have hD : va_D A [(h0, .inr (3, [.ref aB, .int (pz_b (pz_mo x)), .int (-1), .int (pz_b (pz_mf x)), .int (nI ((pz_mr x) + 1)), .int (nI (pz_mF x)), .int (nI (pz_mw x)), .int (nI (pz_mc x)), .int (nI 0)])), (aB, .inl (cB, 76800, .inl f))] := hD
          refine lv_aload_n hx hb dXM_rebuild_63 rfl (lv_at hl 1 rfl) ?_
          refine lv_iconst (v := nI 0) hx hb dXM_rebuild_64 (by decide) ?_
          refine va_put (D := (dC, dI)) (ci := 3) (v := .int (nI 0)) (ty := .boolean) (C := "ParityArrayModel") (T := TXM) (N := 9) hx hb hts (fun w h => List.mem_cons_of_mem _ (inXM w h)) tyXM tyXM_ok nmXM hown hK hP hD hS 0 rfl rfl 3 (by decide) (hts _ (List.mem_cons_of_mem _ tw_394)) (fun _ h9 => h9) rfl (by decide +kernel) rfl rfl (Nat.le_of_ble_eq_true rfl) dXM_rebuild_65 (fun H locs hP hD hS => ?_)
          have hP : va_P (dC, dI) vwCl [(h0, .inr (3, [.ref aB, .int (pz_b (pz_mo x)), .int (-1), .int (pz_b false), .int (nI ((pz_mr x) + 1)), .int (nI (pz_mF x)), .int (nI (pz_mw x)), .int (nI (pz_mc x)), .int (nI 0)])), (aB, .inl (cB, 76800, .inl f))] H := hP
          have hD : va_D A [(h0, .inr (3, [.ref aB, .int (pz_b (pz_mo x)), .int (-1), .int (pz_b false), .int (nI ((pz_mr x) + 1)), .int (nI (pz_mF x)), .int (nI (pz_mw x)), .int (nI (pz_mc x)), .int (nI 0)])), (aB, .inl (cB, 76800, .inl f))] := hD
          refine lv_aload_n hx hb dXM_rebuild_68 rfl (lv_at hl 1 rfl) ?_
          refine lv_iconst (v := nI 0) hx hb dXM_rebuild_69 (by decide) ?_
          refine va_put (D := (dC, dI)) (ci := 3) (v := .int (nI 0)) (ty := .int) (C := "ParityArrayModel") (T := TXM) (N := 9) hx hb hts (fun w h => List.mem_cons_of_mem _ (inXM w h)) tyXM tyXM_ok nmXM hown hK hP hD hS 0 rfl rfl 4 (by decide) (hts _ (List.mem_cons_of_mem _ tw_395)) (fun _ h9 => h9) rfl (by decide +kernel) rfl rfl (Nat.le_of_ble_eq_true rfl) dXM_rebuild_70 (fun H locs hP hD hS => ?_)
          have hP : va_P (dC, dI) vwCl [(h0, .inr (3, [.ref aB, .int (pz_b (pz_mo x)), .int (-1), .int (pz_b false), .int (nI 0), .int (nI (pz_mF x)), .int (nI (pz_mw x)), .int (nI (pz_mc x)), .int (nI 0)])), (aB, .inl (cB, 76800, .inl f))] H := hP
          have hD : va_D A [(h0, .inr (3, [.ref aB, .int (pz_b (pz_mo x)), .int (-1), .int (pz_b false), .int (nI 0), .int (nI (pz_mF x)), .int (nI (pz_mw x)), .int (nI (pz_mc x)), .int (nI 0)])), (aB, .inl (cB, 76800, .inl f))] := hD
          refine lv_iconst (v := nI 0) hx hb dXM_rebuild_73 (by decide) ?_
          exact W.iret (v := nI 0) hx hb hr (fun t ht hW => ⟨⟨_, ((pz_mM x, pz_mo x, none, false, 0, pz_mF x, pz_mw x, pz_mc x), 0, f), rfl, ⟨by unfold pz_gB pz_mreb; rw [if_neg hn, if_pos (by omega), show 150 - (pz_mr x + 1) = 0 by omega], rfl⟩, by rw [ht]; exact hP, va_K.moved hW.alike hK, hAe ▸ hD⟩, hS.F ht⟩) hS.2.2 dXM_rebuild_74
        · have hc : ¬ (150 - ((pz_mr x) + 1)) ≤ 0 := fun h9 => hc ((nI_leI (a := (150 - ((pz_mr x) + 1))) (b := 0) (by omega) (by omega)).mpr h9)
          refine lv_iload_n hx hb dXM_rebuild_56 rfl (lv_at hl 0 rfl) ?_
          exact W.iret (v := nI (150 - ((pz_mr x) + 1))) hx hb hr (fun t ht hW => ⟨⟨_, ((pz_mM x, pz_mo x, pz_ms x, pz_mf x, pz_mr x + 1, pz_mF x, pz_mw x, pz_mc x), 0, f), rfl, ⟨by unfold pz_gB pz_mreb; rw [if_neg hn, if_neg (by omega)], rfl⟩, by rw [ht]; exact hP, va_K.moved hW.alike hK, hAe ▸ hD⟩, hS.F ht⟩) hS.2.2 dXM_rebuild_57
      · have hc : (pz_mf x) = false := pz_b0.mp hc
        refine lv_aload_n hx hb dXM_rebuild_22 rfl (lv_at hl 0 rfl) ?_
        refine lv_iconst (v := nI 1) hx hb dXM_rebuild_23 (by decide) ?_
        have hPc := hP
        have hDc := hD
        have hFc := va_free (wc := [(h0, .inr (3, [.ref aB, .int (pz_b (pz_mo x)), .int (pz_o (pz_ms x)), .int (pz_b (pz_mf x)), .int (nI (pz_mr x)), .int (nI (pz_mF x)), .int (nI (pz_mw x)), .int (nI (pz_mc x)), .int (nI th)])), (aB, .inl (cB, 76800, .inl f))]) hD hS hA [0, 1] rfl
        refine va_calli (va_runV (As := [.int (nI 1)]) (rest := []) ⟨hx, hb, hml, hown, hts⟩ (c_XM_fails l dC dI _ h0 aB cB f x th 1) (cwV 1 hts (pz_gc (List.mem_cons_of_mem _ tw_427) rfl (pz_gc (List.mem_cons_of_mem _ tw_429) rfl (pz_gc (List.mem_cons_of_mem _ ts_9) rfl (pz_gc (List.mem_cons_of_mem _ tw_4) rfl (pz_gi tcXM_fails))))) rfl rfl rfl (by decide +kernel) ⟨Nat.le_of_ble_eq_true rfl, Nat.le_of_ble_eq_true rfl⟩) (pz_preVw (va_recv hK hPc (q0 := 0) rfl rfl) hPc hK hDc) rfl rfl hl.1 rfl (lv_room (Nat.le_of_ble_eq_true rfl)) dXM_rebuild_24 ⟨Nat.zero_le _, Nat.zero_le _⟩) hS (fun q _ h => hFc q h) hFc (fun r u t H1 locs ht hvm hw hB hz hk1 hS => ?_)
        obtain ⟨hP1, hK1, hD1⟩ := hB
        rw [ht] at hP1
        obtain ⟨rfl, rfl⟩ := hw
        obtain ⟨hP, hD⟩ := va_join (wr := []) hP hD [0, 1] [] rfl rfl (by decide) (by decide) hk1 hFc hP1 hD1
        clear hPc hDc hFc hP1 hD1 hK1 hk1 hz ht hvm
        generalize H1 = H at hP hS ⊢
        have hP : va_P (dC, dI) vwCl [(h0, .inr (3, [.ref aB, .int (pz_b (pz_mo x)), .int (pz_o (pz_ms x)), .int (pz_b (pz_mf x)), .int (nI (pz_mr x)), .int (nI (pz_mF x)), .int (nI (pz_mw x)), .int (nI (pz_mc x)), .int (nI 1)])), (aB, .inl (cB, 76800, .inl f))] H := hP
        have hD : va_D A [(h0, .inr (3, [.ref aB, .int (pz_b (pz_mo x)), .int (pz_o (pz_ms x)), .int (pz_b (pz_mf x)), .int (nI (pz_mr x)), .int (nI (pz_mF x)), .int (nI (pz_mw x)), .int (nI (pz_mc x)), .int (nI 1)])), (aB, .inl (cB, 76800, .inl f))] := hD
        exact W.iret (v := nI 0) hx hb hr (fun t ht hW => ⟨⟨_, (x, 1, f), rfl, ⟨by unfold pz_gB; rw [if_pos (Or.inr (Or.inr hc))], rfl⟩, by rw [ht]; exact hP, va_K.moved hW.alike hK, hAe ▸ hD⟩, hS.F ht⟩) hS.2.2 dXM_rebuild_27

set_option maxHeartbeats 4000000 in
set_option maxRecDepth 100000 in
theorem c_XM_power (l : Launch) (dC : Nat → ClassId) (dI : Nat → Nat → Nat) (sz : Nat) (h0 aB : Nat) (cB : ClassId) (f : Nat → Int32) (x : pz_Mu) (th : Nat) (k b : Int32) (r0 : Bool) (hm1 : pz_mr x ≤ 150) (hm2 : pz_mF x ≤ 2) (hm3 : pz_mw x ≤ 10) (hm4 : pz_mc x ≤ 200) (hm5 : ∀ e, pz_ms x = some e → e < 5) (hth : th < 10) : Met l yXM_power wsXM_power ({ frames := 0, cells := 0, slots := 0, locals := 0 }) (va_Pc [.ref h0, .int k, .int b, .int (pz_b r0)] (fun U => U.heap.size = sz ∧ va_P (dC, dI) vwCl (pz_MW h0 aB cB f x th) U.heap ∧ va_K (dC, dI) vwCl [(cB, .byte)] U ∧ va_D (fun _ => True) (pz_MW h0 aB cB f x th))) (va_Qv (fun (u : pz_Mu × Nat × (Nat → Int32)) => (u.1, u.2.1) = pz_gP x k b r0 ∧ u.2.2 = f) (fun u t => va_P (dC, dI) vwCl (pz_MW h0 aB cB u.2.2 u.1 u.2.1) t.heap ∧ va_K (dC, dI) vwCl [(cB, .byte)] t ∧ va_D (va_A (pz_MW h0 aB cB f x th) sz) (pz_MW h0 aB cB u.2.2 u.1 u.2.1)) (va_A (pz_MW h0 aB cB f x th) sz)) 0 0 (va_A (pz_MW h0 aB cB f x th) sz) := by
  refine Met.ofW (cc := cXM_power) (maxL := 4) (ret := none) (by decide) rfl ?_
  intro p e s m args below meth c s₁ B hml hv
  obtain ⟨rfl, hsz, hP, hK, hD0⟩ := hv
  have hx := B.exec
  have hb := B.bytes
  have hr := B.returns
  have hts := atoms_spec (ws := wsXM_power) B.pre
  have hown : s.vm.findClass "ParityArrayModel" = some m.cls := findClass_of_methodNamed B.named
  have hlocks := B.notSynchronized
  subst hsz
  have hD := hD0.self (sz := s.heap.size)
  generalize hAe : va_A (pz_MW h0 aB cB f x th) s.heap.size = A at hD ⊢
  have hA : ∀ q : Nat, s.heap.size ≤ q → A q := fun q h => by rw [← hAe]; exact Or.inr h
  have hS : va_S A s.heap s.heap [] := va_S.rf
  have hl := lv_entry ([.ref h0, .int k, .int b, .int (pz_b r0)]) (n := 4) (Nat.le_of_ble_eq_true rfl)
  rw [lg_entry_eq]
  generalize (lg_sl ([.ref h0, .int k, .int b, .int (pz_b r0)]) ++ List.replicate (4 - (lg_sl ([.ref h0, .int k, .int b, .int (pz_b r0)])).length) Slot.unset).toArray = ls at hl ⊢
  have hl : lv_has ls 4 [(0, .ref h0), (1, .int k), (2, .int b), (3, .int (pz_b r0))] := hl
  have hP : va_P (dC, dI) vwCl [(h0, .inr (3, [.ref aB, .int (pz_b (pz_mo x)), .int (pz_o (pz_ms x)), .int (pz_b (pz_mf x)), .int (nI (pz_mr x)), .int (nI (pz_mF x)), .int (nI (pz_mw x)), .int (nI (pz_mc x)), .int (nI th)])), (aB, .inl (cB, 76800, .inl f))] s.heap := hP
  have hD : va_D A [(h0, .inr (3, [.ref aB, .int (pz_b (pz_mo x)), .int (pz_o (pz_ms x)), .int (pz_b (pz_mf x)), .int (nI (pz_mr x)), .int (nI (pz_mF x)), .int (nI (pz_mw x)), .int (nI (pz_mc x)), .int (nI th)])), (aB, .inl (cB, 76800, .inl f))] := hD
  refine lv_aload_n hx hb dXM_power_0 rfl (lv_at hl 0 rfl) ?_
  refine lv_iload_n hx hb dXM_power_1 rfl (lv_at hl 1 rfl) ?_
  refine lv_if_lt (tgt := 22) hx hb dXM_power_2 (by decide) (fun hc => ?_) (fun hc => ?_)
  · refine lv_iconst (v := nI 1) hx hb dXM_power_22 (by decide) ?_
    refine lv_goto (tgt := 27) hx hb dXM_power_23 (by decide) ?_
    refine va_put (D := (dC, dI)) (ci := 3) (v := .int (nI 1)) (ty := .int) (C := "ParityArrayModel") (T := TXM) (N := 9) hx hb hts (fun w h => List.mem_cons_of_mem _ (inXM w h)) tyXM tyXM_ok nmXM hown hK hP hD hS 0 rfl rfl 8 (by decide) (hts _ (List.mem_cons_of_mem _ tw_399)) (fun _ h9 => h9) rfl (by decide +kernel) rfl rfl (Nat.le_of_ble_eq_true rfl) dXM_power_27 (fun H locs hP hD hS => ?_)
    have hP : va_P (dC, dI) vwCl [(h0, .inr (3, [.ref aB, .int (pz_b (pz_mo x)), .int (pz_o (pz_ms x)), .int (pz_b (pz_mf x)), .int (nI (pz_mr x)), .int (nI (pz_mF x)), .int (nI (pz_mw x)), .int (nI (pz_mc x)), .int (nI 1)])), (aB, .inl (cB, 76800, .inl f))] H := hP
    have hD : va_D A [(h0, .inr (3, [.ref aB, .int (pz_b (pz_mo x)), .int (pz_o (pz_ms x)), .int (pz_b (pz_mf x)), .int (nI (pz_mr x)), .int (nI (pz_mF x)), .int (nI (pz_mw x)), .int (nI (pz_mc x)), .int (nI 1)])), (aB, .inl (cB, 76800, .inl f))] := hD
    refine lv_aload_n hx hb dXM_power_30 rfl (lv_at hl 0 rfl) ?_
    refine va_get (D := (dC, dI)) (ci := 3) (v := .int (nI 1)) (C := "ParityArrayModel") (T := TXM) (N := 9) hx hb hts (fun w h => List.mem_cons_of_mem _ (inXM w h)) hown hK hP 0 rfl rfl 8 (by decide) (hts _ (List.mem_cons_of_mem _ tw_399)) (fun _ h9 => h9) rfl dXM_power_31 ?_
    refine lv_if_eq (tgt := 38) hx hb dXM_power_34 (by decide) (fun hc => absurd hc (by decide)) (fun _ => ?_)
    exact W.vret hx hb hr (fun t ht hW => ⟨⟨(x, 1, f), rfl, ⟨by unfold pz_gP; rw [if_pos (show pz_isW k b = false from decide_eq_false (fun h9 => Int32.not_le.mpr hc h9.1))], rfl⟩, by rw [ht]; exact hP, va_K.moved hW.alike hK, hAe ▸ hD⟩, hS.F ht⟩) hS.2.2 dXM_power_37
  · have h1 := hc
    refine lv_iload_n hx hb dXM_power_5 rfl (lv_at hl 1 rfl) ?_
    refine lv_bipush (v := nI 10) hx hb dXM_power_6 (by decide) ?_
    refine lv_icmp_gt (tgt := 22) hx hb dXM_power_8 (by decide) (fun hc => ?_) (fun hc => ?_)
    · refine lv_iconst (v := nI 1) hx hb dXM_power_22 (by decide) ?_
      refine lv_goto (tgt := 27) hx hb dXM_power_23 (by decide) ?_
      refine va_put (D := (dC, dI)) (ci := 3) (v := .int (nI 1)) (ty := .int) (C := "ParityArrayModel") (T := TXM) (N := 9) hx hb hts (fun w h => List.mem_cons_of_mem _ (inXM w h)) tyXM tyXM_ok nmXM hown hK hP hD hS 0 rfl rfl 8 (by decide) (hts _ (List.mem_cons_of_mem _ tw_399)) (fun _ h9 => h9) rfl (by decide +kernel) rfl rfl (Nat.le_of_ble_eq_true rfl) dXM_power_27 (fun H locs hP hD hS => ?_)
      have hP : va_P (dC, dI) vwCl [(h0, .inr (3, [.ref aB, .int (pz_b (pz_mo x)), .int (pz_o (pz_ms x)), .int (pz_b (pz_mf x)), .int (nI (pz_mr x)), .int (nI (pz_mF x)), .int (nI (pz_mw x)), .int (nI (pz_mc x)), .int (nI 1)])), (aB, .inl (cB, 76800, .inl f))] H := hP
      have hD : va_D A [(h0, .inr (3, [.ref aB, .int (pz_b (pz_mo x)), .int (pz_o (pz_ms x)), .int (pz_b (pz_mf x)), .int (nI (pz_mr x)), .int (nI (pz_mF x)), .int (nI (pz_mw x)), .int (nI (pz_mc x)), .int (nI 1)])), (aB, .inl (cB, 76800, .inl f))] := hD
      refine lv_aload_n hx hb dXM_power_30 rfl (lv_at hl 0 rfl) ?_
      refine va_get (D := (dC, dI)) (ci := 3) (v := .int (nI 1)) (C := "ParityArrayModel") (T := TXM) (N := 9) hx hb hts (fun w h => List.mem_cons_of_mem _ (inXM w h)) hown hK hP 0 rfl rfl 8 (by decide) (hts _ (List.mem_cons_of_mem _ tw_399)) (fun _ h9 => h9) rfl dXM_power_31 ?_
      refine lv_if_eq (tgt := 38) hx hb dXM_power_34 (by decide) (fun hc => absurd hc (by decide)) (fun _ => ?_)
      exact W.vret hx hb hr (fun t ht hW => ⟨⟨(x, 1, f), rfl, ⟨by unfold pz_gP; rw [if_pos (show pz_isW k b = false from decide_eq_false (fun h9 => Int32.not_le.mpr hc ((pz_lt_succ rfl (by decide)).mpr h9.2.1)))], rfl⟩, by rw [ht]; exact hP, va_K.moved hW.alike hK, hAe ▸ hD⟩, hS.F ht⟩) hS.2.2 dXM_power_37
    · have h2 := hc
      refine lv_iload_n hx hb dXM_power_11 rfl (lv_at hl 2 rfl) ?_
      refine lv_if_lt (tgt := 22) hx hb dXM_power_12 (by decide) (fun hc => ?_) (fun hc => ?_)
      · refine lv_iconst (v := nI 1) hx hb dXM_power_22 (by decide) ?_
        refine lv_goto (tgt := 27) hx hb dXM_power_23 (by decide) ?_
        refine va_put (D := (dC, dI)) (ci := 3) (v := .int (nI 1)) (ty := .int) (C := "ParityArrayModel") (T := TXM) (N := 9) hx hb hts (fun w h => List.mem_cons_of_mem _ (inXM w h)) tyXM tyXM_ok nmXM hown hK hP hD hS 0 rfl rfl 8 (by decide) (hts _ (List.mem_cons_of_mem _ tw_399)) (fun _ h9 => h9) rfl (by decide +kernel) rfl rfl (Nat.le_of_ble_eq_true rfl) dXM_power_27 (fun H locs hP hD hS => ?_)
        have hP : va_P (dC, dI) vwCl [(h0, .inr (3, [.ref aB, .int (pz_b (pz_mo x)), .int (pz_o (pz_ms x)), .int (pz_b (pz_mf x)), .int (nI (pz_mr x)), .int (nI (pz_mF x)), .int (nI (pz_mw x)), .int (nI (pz_mc x)), .int (nI 1)])), (aB, .inl (cB, 76800, .inl f))] H := hP
        have hD : va_D A [(h0, .inr (3, [.ref aB, .int (pz_b (pz_mo x)), .int (pz_o (pz_ms x)), .int (pz_b (pz_mf x)), .int (nI (pz_mr x)), .int (nI (pz_mF x)), .int (nI (pz_mw x)), .int (nI (pz_mc x)), .int (nI 1)])), (aB, .inl (cB, 76800, .inl f))] := hD
        refine lv_aload_n hx hb dXM_power_30 rfl (lv_at hl 0 rfl) ?_
        refine va_get (D := (dC, dI)) (ci := 3) (v := .int (nI 1)) (C := "ParityArrayModel") (T := TXM) (N := 9) hx hb hts (fun w h => List.mem_cons_of_mem _ (inXM w h)) hown hK hP 0 rfl rfl 8 (by decide) (hts _ (List.mem_cons_of_mem _ tw_399)) (fun _ h9 => h9) rfl dXM_power_31 ?_
        refine lv_if_eq (tgt := 38) hx hb dXM_power_34 (by decide) (fun hc => absurd hc (by decide)) (fun _ => ?_)
        exact W.vret hx hb hr (fun t ht hW => ⟨⟨(x, 1, f), rfl, ⟨by unfold pz_gP; rw [if_pos (show pz_isW k b = false from decide_eq_false (fun h9 => Int32.not_le.mpr hc h9.2.2.1))], rfl⟩, by rw [ht]; exact hP, va_K.moved hW.alike hK, hAe ▸ hD⟩, hS.F ht⟩) hS.2.2 dXM_power_37
      · have h3 := hc
        refine lv_iload_n hx hb dXM_power_15 rfl (lv_at hl 2 rfl) ?_
        refine lv_sipush (v := nI 200) hx hb dXM_power_16 (by decide) ?_
        refine lv_icmp_le (tgt := 26) hx hb dXM_power_19 (by decide) (fun hc => ?_) (fun hc => ?_)
        · obtain ⟨k0, b0, hk0, hb0, rfl, rfl⟩ := pz_isW_of (decide_eq_true ⟨Int32.not_lt.mp h1, (pz_lt_succ rfl (by decide)).mp (Int32.not_lt.mp h2), Int32.not_lt.mp h3, (pz_lt_succ rfl (by decide)).mp hc⟩ : pz_isW k b = true)
          refine lv_iconst (v := nI 0) hx hb dXM_power_26 (by decide) ?_
          refine va_put (D := (dC, dI)) (ci := 3) (v := .int (nI 0)) (ty := .int) (C := "ParityArrayModel") (T := TXM) (N := 9) hx hb hts (fun w h => List.mem_cons_of_mem _ (inXM w h)) tyXM tyXM_ok nmXM hown hK hP hD hS 0 rfl rfl 8 (by decide) (hts _ (List.mem_cons_of_mem _ tw_399)) (fun _ h9 => h9) rfl (by decide +kernel) rfl rfl (Nat.le_of_ble_eq_true rfl) dXM_power_27 (fun H locs hP hD hS => ?_)
          have hP : va_P (dC, dI) vwCl [(h0, .inr (3, [.ref aB, .int (pz_b (pz_mo x)), .int (pz_o (pz_ms x)), .int (pz_b (pz_mf x)), .int (nI (pz_mr x)), .int (nI (pz_mF x)), .int (nI (pz_mw x)), .int (nI (pz_mc x)), .int (nI 0)])), (aB, .inl (cB, 76800, .inl f))] H := hP
          have hD : va_D A [(h0, .inr (3, [.ref aB, .int (pz_b (pz_mo x)), .int (pz_o (pz_ms x)), .int (pz_b (pz_mf x)), .int (nI (pz_mr x)), .int (nI (pz_mF x)), .int (nI (pz_mw x)), .int (nI (pz_mc x)), .int (nI 0)])), (aB, .inl (cB, 76800, .inl f))] := hD
          refine lv_aload_n hx hb dXM_power_30 rfl (lv_at hl 0 rfl) ?_
          refine va_get (D := (dC, dI)) (ci := 3) (v := .int (nI 0)) (C := "ParityArrayModel") (T := TXM) (N := 9) hx hb hts (fun w h => List.mem_cons_of_mem _ (inXM w h)) hown hK hP 0 rfl rfl 8 (by decide) (hts _ (List.mem_cons_of_mem _ tw_399)) (fun _ h9 => h9) rfl dXM_power_31 ?_
          refine lv_if_eq (tgt := 38) hx hb dXM_power_34 (by decide) (fun _ => ?_) (fun hc => absurd hc (by decide))
          refine lv_aload_n hx hb dXM_power_38 rfl (lv_at hl 0 rfl) ?_
          refine lv_iload_n hx hb dXM_power_39 rfl (lv_at hl 3 rfl) ?_
          refine lv_if_eq (tgt := 47) hx hb dXM_power_40 (by decide) (fun hc => ?_) (fun hc => ?_)
          · have hc : r0 = false := pz_b0.mp hc
            refine lv_iconst (v := nI 1) hx hb dXM_power_47 (by decide) ?_
            refine va_put (D := (dC, dI)) (ci := 3) (v := .int (nI 1)) (ty := .int) (C := "ParityArrayModel") (T := TXM) (N := 9) hx hb hts (fun w h => List.mem_cons_of_mem _ (inXM w h)) tyXM tyXM_ok nmXM hown hK hP hD hS 0 rfl rfl 5 (by decide) (hts _ (List.mem_cons_of_mem _ tw_396)) (fun _ h9 => h9) rfl (by decide +kernel) rfl rfl (Nat.le_of_ble_eq_true rfl) dXM_power_48 (fun H locs hP hD hS => ?_)
            have hP : va_P (dC, dI) vwCl [(h0, .inr (3, [.ref aB, .int (pz_b (pz_mo x)), .int (pz_o (pz_ms x)), .int (pz_b (pz_mf x)), .int (nI (pz_mr x)), .int (nI 1), .int (nI (pz_mw x)), .int (nI (pz_mc x)), .int (nI 0)])), (aB, .inl (cB, 76800, .inl f))] H := hP
            have hD : va_D A [(h0, .inr (3, [.ref aB, .int (pz_b (pz_mo x)), .int (pz_o (pz_ms x)), .int (pz_b (pz_mf x)), .int (nI (pz_mr x)), .int (nI 1), .int (nI (pz_mw x)), .int (nI (pz_mc x)), .int (nI 0)])), (aB, .inl (cB, 76800, .inl f))] := hD
            refine lv_aload_n hx hb dXM_power_51 rfl (lv_at hl 0 rfl) ?_
            refine lv_iload_n hx hb dXM_power_52 rfl (lv_at hl 1 rfl) ?_
            refine va_put (D := (dC, dI)) (ci := 3) (v := .int (nI k0)) (ty := .int) (C := "ParityArrayModel") (T := TXM) (N := 9) hx hb hts (fun w h => List.mem_cons_of_mem _ (inXM w h)) tyXM tyXM_ok nmXM hown hK hP hD hS 0 rfl rfl 6 (by decide) (hts _ (List.mem_cons_of_mem _ tw_397)) (fun _ h9 => h9) rfl (by decide +kernel) rfl rfl (Nat.le_of_ble_eq_true rfl) dXM_power_53 (fun H locs hP hD hS => ?_)
            have hP : va_P (dC, dI) vwCl [(h0, .inr (3, [.ref aB, .int (pz_b (pz_mo x)), .int (pz_o (pz_ms x)), .int (pz_b (pz_mf x)), .int (nI (pz_mr x)), .int (nI 1), .int (nI k0), .int (nI (pz_mc x)), .int (nI 0)])), (aB, .inl (cB, 76800, .inl f))] H := hP
            have hD : va_D A [(h0, .inr (3, [.ref aB, .int (pz_b (pz_mo x)), .int (pz_o (pz_ms x)), .int (pz_b (pz_mf x)), .int (nI (pz_mr x)), .int (nI 1), .int (nI k0), .int (nI (pz_mc x)), .int (nI 0)])), (aB, .inl (cB, 76800, .inl f))] := hD
            refine lv_aload_n hx hb dXM_power_56 rfl (lv_at hl 0 rfl) ?_
            refine lv_iload_n hx hb dXM_power_57 rfl (lv_at hl 2 rfl) ?_
            refine va_put (D := (dC, dI)) (ci := 3) (v := .int (nI b0)) (ty := .int) (C := "ParityArrayModel") (T := TXM) (N := 9) hx hb hts (fun w h => List.mem_cons_of_mem _ (inXM w h)) tyXM tyXM_ok nmXM hown hK hP hD hS 0 rfl rfl 7 (by decide) (hts _ (List.mem_cons_of_mem _ tw_398)) (fun _ h9 => h9) rfl (by decide +kernel) rfl rfl (Nat.le_of_ble_eq_true rfl) dXM_power_58 (fun H locs hP hD hS => ?_)
            have hP : va_P (dC, dI) vwCl [(h0, .inr (3, [.ref aB, .int (pz_b (pz_mo x)), .int (pz_o (pz_ms x)), .int (pz_b (pz_mf x)), .int (nI (pz_mr x)), .int (nI 1), .int (nI k0), .int (nI b0), .int (nI 0)])), (aB, .inl (cB, 76800, .inl f))] H := hP
            have hD : va_D A [(h0, .inr (3, [.ref aB, .int (pz_b (pz_mo x)), .int (pz_o (pz_ms x)), .int (pz_b (pz_mf x)), .int (nI (pz_mr x)), .int (nI 1), .int (nI k0), .int (nI b0), .int (nI 0)])), (aB, .inl (cB, 76800, .inl f))] := hD
            exact W.vret hx hb hr (fun t ht hW => ⟨⟨((pz_mM x, pz_mo x, pz_ms x, pz_mf x, pz_mr x, 1, k0, b0), 0, f), rfl, ⟨by unfold pz_gP; rw [if_neg (by rw [pz_isW_nI hk0 hb0]; decide), nI_clamp (by omega), nI_clamp (by omega), hc]; rfl, rfl⟩, by rw [ht]; exact hP, va_K.moved hW.alike hK, hAe ▸ hD⟩, hS.F ht⟩) hS.2.2 dXM_power_61
          · have hc : r0 = true := pz_bn hc
            refine lv_iconst (v := nI 2) hx hb dXM_power_43 (by decide) ?_
            refine lv_goto (tgt := 48) hx hb dXM_power_44 (by decide) ?_
            refine va_put (D := (dC, dI)) (ci := 3) (v := .int (nI 2)) (ty := .int) (C := "ParityArrayModel") (T := TXM) (N := 9) hx hb hts (fun w h => List.mem_cons_of_mem _ (inXM w h)) tyXM tyXM_ok nmXM hown hK hP hD hS 0 rfl rfl 5 (by decide) (hts _ (List.mem_cons_of_mem _ tw_396)) (fun _ h9 => h9) rfl (by decide +kernel) rfl rfl (Nat.le_of_ble_eq_true rfl) dXM_power_48 (fun H locs hP hD hS => ?_)
            have hP : va_P (dC, dI) vwCl [(h0, .inr (3, [.ref aB, .int (pz_b (pz_mo x)), .int (pz_o (pz_ms x)), .int (pz_b (pz_mf x)), .int (nI (pz_mr x)), .int (nI 2), .int (nI (pz_mw x)), .int (nI (pz_mc x)), .int (nI 0)])), (aB, .inl (cB, 76800, .inl f))] H := hP
            have hD : va_D A [(h0, .inr (3, [.ref aB, .int (pz_b (pz_mo x)), .int (pz_o (pz_ms x)), .int (pz_b (pz_mf x)), .int (nI (pz_mr x)), .int (nI 2), .int (nI (pz_mw x)), .int (nI (pz_mc x)), .int (nI 0)])), (aB, .inl (cB, 76800, .inl f))] := hD
            refine lv_aload_n hx hb dXM_power_51 rfl (lv_at hl 0 rfl) ?_
            refine lv_iload_n hx hb dXM_power_52 rfl (lv_at hl 1 rfl) ?_
            refine va_put (D := (dC, dI)) (ci := 3) (v := .int (nI k0)) (ty := .int) (C := "ParityArrayModel") (T := TXM) (N := 9) hx hb hts (fun w h => List.mem_cons_of_mem _ (inXM w h)) tyXM tyXM_ok nmXM hown hK hP hD hS 0 rfl rfl 6 (by decide) (hts _ (List.mem_cons_of_mem _ tw_397)) (fun _ h9 => h9) rfl (by decide +kernel) rfl rfl (Nat.le_of_ble_eq_true rfl) dXM_power_53 (fun H locs hP hD hS => ?_)
            have hP : va_P (dC, dI) vwCl [(h0, .inr (3, [.ref aB, .int (pz_b (pz_mo x)), .int (pz_o (pz_ms x)), .int (pz_b (pz_mf x)), .int (nI (pz_mr x)), .int (nI 2), .int (nI k0), .int (nI (pz_mc x)), .int (nI 0)])), (aB, .inl (cB, 76800, .inl f))] H := hP
            have hD : va_D A [(h0, .inr (3, [.ref aB, .int (pz_b (pz_mo x)), .int (pz_o (pz_ms x)), .int (pz_b (pz_mf x)), .int (nI (pz_mr x)), .int (nI 2), .int (nI k0), .int (nI (pz_mc x)), .int (nI 0)])), (aB, .inl (cB, 76800, .inl f))] := hD
            refine lv_aload_n hx hb dXM_power_56 rfl (lv_at hl 0 rfl) ?_
            refine lv_iload_n hx hb dXM_power_57 rfl (lv_at hl 2 rfl) ?_
            refine va_put (D := (dC, dI)) (ci := 3) (v := .int (nI b0)) (ty := .int) (C := "ParityArrayModel") (T := TXM) (N := 9) hx hb hts (fun w h => List.mem_cons_of_mem _ (inXM w h)) tyXM tyXM_ok nmXM hown hK hP hD hS 0 rfl rfl 7 (by decide) (hts _ (List.mem_cons_of_mem _ tw_398)) (fun _ h9 => h9) rfl (by decide +kernel) rfl rfl (Nat.le_of_ble_eq_true rfl) dXM_power_58 (fun H locs hP hD hS => ?_)
            have hP : va_P (dC, dI) vwCl [(h0, .inr (3, [.ref aB, .int (pz_b (pz_mo x)), .int (pz_o (pz_ms x)), .int (pz_b (pz_mf x)), .int (nI (pz_mr x)), .int (nI 2), .int (nI k0), .int (nI b0), .int (nI 0)])), (aB, .inl (cB, 76800, .inl f))] H := hP
            have hD : va_D A [(h0, .inr (3, [.ref aB, .int (pz_b (pz_mo x)), .int (pz_o (pz_ms x)), .int (pz_b (pz_mf x)), .int (nI (pz_mr x)), .int (nI 2), .int (nI k0), .int (nI b0), .int (nI 0)])), (aB, .inl (cB, 76800, .inl f))] := hD
            exact W.vret hx hb hr (fun t ht hW => ⟨⟨((pz_mM x, pz_mo x, pz_ms x, pz_mf x, pz_mr x, 2, k0, b0), 0, f), rfl, ⟨by unfold pz_gP; rw [if_neg (by rw [pz_isW_nI hk0 hb0]; decide), nI_clamp (by omega), nI_clamp (by omega), hc]; rfl, rfl⟩, by rw [ht]; exact hP, va_K.moved hW.alike hK, hAe ▸ hD⟩, hS.F ht⟩) hS.2.2 dXM_power_61
        · refine lv_iconst (v := nI 1) hx hb dXM_power_22 (by decide) ?_
          refine lv_goto (tgt := 27) hx hb dXM_power_23 (by decide) ?_
          refine va_put (D := (dC, dI)) (ci := 3) (v := .int (nI 1)) (ty := .int) (C := "ParityArrayModel") (T := TXM) (N := 9) hx hb hts (fun w h => List.mem_cons_of_mem _ (inXM w h)) tyXM tyXM_ok nmXM hown hK hP hD hS 0 rfl rfl 8 (by decide) (hts _ (List.mem_cons_of_mem _ tw_399)) (fun _ h9 => h9) rfl (by decide +kernel) rfl rfl (Nat.le_of_ble_eq_true rfl) dXM_power_27 (fun H locs hP hD hS => ?_)
          have hP : va_P (dC, dI) vwCl [(h0, .inr (3, [.ref aB, .int (pz_b (pz_mo x)), .int (pz_o (pz_ms x)), .int (pz_b (pz_mf x)), .int (nI (pz_mr x)), .int (nI (pz_mF x)), .int (nI (pz_mw x)), .int (nI (pz_mc x)), .int (nI 1)])), (aB, .inl (cB, 76800, .inl f))] H := hP
          have hD : va_D A [(h0, .inr (3, [.ref aB, .int (pz_b (pz_mo x)), .int (pz_o (pz_ms x)), .int (pz_b (pz_mf x)), .int (nI (pz_mr x)), .int (nI (pz_mF x)), .int (nI (pz_mw x)), .int (nI (pz_mc x)), .int (nI 1)])), (aB, .inl (cB, 76800, .inl f))] := hD
          refine lv_aload_n hx hb dXM_power_30 rfl (lv_at hl 0 rfl) ?_
          refine va_get (D := (dC, dI)) (ci := 3) (v := .int (nI 1)) (C := "ParityArrayModel") (T := TXM) (N := 9) hx hb hts (fun w h => List.mem_cons_of_mem _ (inXM w h)) hown hK hP 0 rfl rfl 8 (by decide) (hts _ (List.mem_cons_of_mem _ tw_399)) (fun _ h9 => h9) rfl dXM_power_31 ?_
          refine lv_if_eq (tgt := 38) hx hb dXM_power_34 (by decide) (fun hc => absurd hc (by decide)) (fun _ => ?_)
          exact W.vret hx hb hr (fun t ht hW => ⟨⟨(x, 1, f), rfl, ⟨by unfold pz_gP; rw [if_pos (show pz_isW k b = false from decide_eq_false (fun h9 => hc ((pz_lt_succ rfl (by decide)).mpr h9.2.2.2)))], rfl⟩, by rw [ht]; exact hP, va_K.moved hW.alike hK, hAe ▸ hD⟩, hS.F ht⟩) hS.2.2 dXM_power_37

set_option maxHeartbeats 4000000 in
set_option maxRecDepth 100000 in
theorem c_XM_recover (l : Launch) (dC : Nat → ClassId) (dI : Nat → Nat → Nat) (sz : Nat) (h0 aB : Nat) (cB : ClassId) (f : Nat → Int32) (x : pz_Mu) (th : Nat) (hm1 : pz_mr x ≤ 150) (hm2 : pz_mF x ≤ 2) (hm3 : pz_mw x ≤ 10) (hm4 : pz_mc x ≤ 200) (hm5 : ∀ e, pz_ms x = some e → e < 5) (hth : th < 10) : Met l yXM_recover wsXM_recover ({ frames := 0, cells := 0, slots := 0, locals := 0 }) (va_Pc [.ref h0] (fun U => U.heap.size = sz ∧ va_P (dC, dI) vwCl (pz_MW h0 aB cB f x th) U.heap ∧ va_K (dC, dI) vwCl [(cB, .byte)] U ∧ va_D (fun _ => True) (pz_MW h0 aB cB f x th))) (va_Qv (fun (u : pz_Mu × Nat × (Nat → Int32)) => (u.1, u.2.1) = (pz_mrec x, if pz_mF x = 2 then 1 else 0) ∧ u.2.2 = f) (fun u t => va_P (dC, dI) vwCl (pz_MW h0 aB cB u.2.2 u.1 u.2.1) t.heap ∧ va_K (dC, dI) vwCl [(cB, .byte)] t ∧ va_D (va_A (pz_MW h0 aB cB f x th) sz) (pz_MW h0 aB cB u.2.2 u.1 u.2.1)) (va_A (pz_MW h0 aB cB f x th) sz)) 0 0 (va_A (pz_MW h0 aB cB f x th) sz) := by
  refine Met.ofW (cc := cXM_recover) (maxL := 1) (ret := none) (by decide) rfl ?_
  intro p e s m args below meth c s₁ B hml hv
  obtain ⟨rfl, hsz, hP, hK, hD0⟩ := hv
  have hx := B.exec
  have hb := B.bytes
  have hr := B.returns
  have hts := atoms_spec (ws := wsXM_recover) B.pre
  have hown : s.vm.findClass "ParityArrayModel" = some m.cls := findClass_of_methodNamed B.named
  have hlocks := B.notSynchronized
  subst hsz
  have hD := hD0.self (sz := s.heap.size)
  generalize hAe : va_A (pz_MW h0 aB cB f x th) s.heap.size = A at hD ⊢
  have hA : ∀ q : Nat, s.heap.size ≤ q → A q := fun q h => by rw [← hAe]; exact Or.inr h
  have hS : va_S A s.heap s.heap [] := va_S.rf
  have hl := lv_entry ([.ref h0]) (n := 1) (Nat.le_of_ble_eq_true rfl)
  rw [lg_entry_eq]
  generalize (lg_sl ([.ref h0]) ++ List.replicate (1 - (lg_sl ([.ref h0])).length) Slot.unset).toArray = ls at hl ⊢
  have hl : lv_has ls 1 [(0, .ref h0)] := hl
  have hP : va_P (dC, dI) vwCl [(h0, .inr (3, [.ref aB, .int (pz_b (pz_mo x)), .int (pz_o (pz_ms x)), .int (pz_b (pz_mf x)), .int (nI (pz_mr x)), .int (nI (pz_mF x)), .int (nI (pz_mw x)), .int (nI (pz_mc x)), .int (nI th)])), (aB, .inl (cB, 76800, .inl f))] s.heap := hP
  have hD : va_D A [(h0, .inr (3, [.ref aB, .int (pz_b (pz_mo x)), .int (pz_o (pz_ms x)), .int (pz_b (pz_mf x)), .int (nI (pz_mr x)), .int (nI (pz_mF x)), .int (nI (pz_mw x)), .int (nI (pz_mc x)), .int (nI th)])), (aB, .inl (cB, 76800, .inl f))] := hD
  refine lv_aload_n hx hb dXM_recover_0 rfl (lv_at hl 0 rfl) ?_
  refine lv_aload_n hx hb dXM_recover_1 rfl (lv_at hl 0 rfl) ?_
  refine va_get (D := (dC, dI)) (ci := 3) (v := .int (nI (pz_mF x))) (C := "ParityArrayModel") (T := TXM) (N := 9) hx hb hts (fun w h => List.mem_cons_of_mem _ (inXM w h)) hown hK hP 0 rfl rfl 5 (by decide) (hts _ (List.mem_cons_of_mem _ tw_396)) (fun _ h9 => h9) rfl dXM_recover_2 ?_
  refine lv_iconst (v := nI 2) hx hb dXM_recover_5 (by decide) ?_
  refine lv_icmp_eq (tgt := 13) hx hb dXM_recover_6 (by decide) (fun hc => ?_) (fun hc => ?_)
  · have hc : (pz_mF x) = 2 := (nI_eq (a := (pz_mF x)) (b := 2) (by omega) (by omega)).mp hc
    have h2 := hc
    refine lv_iconst (v := nI 0) hx hb dXM_recover_13 (by decide) ?_
    refine va_put (D := (dC, dI)) (ci := 3) (v := .int (nI 0)) (ty := .boolean) (C := "ParityArrayModel") (T := TXM) (N := 9) hx hb hts (fun w h => List.mem_cons_of_mem _ (inXM w h)) tyXM tyXM_ok nmXM hown hK hP hD hS 0 rfl rfl 1 (by decide) (hts _ (List.mem_cons_of_mem _ tw_392)) (fun _ h9 => h9) rfl (by decide +kernel) rfl rfl (Nat.le_of_ble_eq_true rfl) dXM_recover_14 (fun H locs hP hD hS => ?_)
    have hP : va_P (dC, dI) vwCl [(h0, .inr (3, [.ref aB, .int (pz_b false), .int (pz_o (pz_ms x)), .int (pz_b (pz_mf x)), .int (nI (pz_mr x)), .int (nI (pz_mF x)), .int (nI (pz_mw x)), .int (nI (pz_mc x)), .int (nI th)])), (aB, .inl (cB, 76800, .inl f))] H := hP
    have hD : va_D A [(h0, .inr (3, [.ref aB, .int (pz_b false), .int (pz_o (pz_ms x)), .int (pz_b (pz_mf x)), .int (nI (pz_mr x)), .int (nI (pz_mF x)), .int (nI (pz_mw x)), .int (nI (pz_mc x)), .int (nI th)])), (aB, .inl (cB, 76800, .inl f))] := hD
    refine lv_aload_n hx hb dXM_recover_17 rfl (lv_at hl 0 rfl) ?_
    refine lv_aload_n hx hb dXM_recover_18 rfl (lv_at hl 0 rfl) ?_
    refine va_get (D := (dC, dI)) (ci := 3) (v := .int (pz_b false)) (C := "ParityArrayModel") (T := TXM) (N := 9) hx hb hts (fun w h => List.mem_cons_of_mem _ (inXM w h)) hown hK hP 0 rfl rfl 1 (by decide) (hts _ (List.mem_cons_of_mem _ tw_392)) (fun _ h9 => h9) rfl dXM_recover_19 ?_
    refine lv_if_eq (tgt := 29) hx hb dXM_recover_22 (by decide) (fun _ => ?_) (fun hc => absurd hc (by decide))
    refine lv_iconst (v := nI 1) hx hb dXM_recover_29 (by decide) ?_
    refine va_put (D := (dC, dI)) (ci := 3) (v := .int (nI 1)) (ty := .int) (C := "ParityArrayModel") (T := TXM) (N := 9) hx hb hts (fun w h => List.mem_cons_of_mem _ (inXM w h)) tyXM tyXM_ok nmXM hown hK hP hD hS 0 rfl rfl 8 (by decide) (hts _ (List.mem_cons_of_mem _ tw_399)) (fun _ h9 => h9) rfl (by decide +kernel) rfl rfl (Nat.le_of_ble_eq_true rfl) dXM_recover_30 (fun H locs hP hD hS => ?_)
    have hP : va_P (dC, dI) vwCl [(h0, .inr (3, [.ref aB, .int (pz_b false), .int (pz_o (pz_ms x)), .int (pz_b (pz_mf x)), .int (nI (pz_mr x)), .int (nI (pz_mF x)), .int (nI (pz_mw x)), .int (nI (pz_mc x)), .int (nI 1)])), (aB, .inl (cB, 76800, .inl f))] H := hP
    have hD : va_D A [(h0, .inr (3, [.ref aB, .int (pz_b false), .int (pz_o (pz_ms x)), .int (pz_b (pz_mf x)), .int (nI (pz_mr x)), .int (nI (pz_mF x)), .int (nI (pz_mw x)), .int (nI (pz_mc x)), .int (nI 1)])), (aB, .inl (cB, 76800, .inl f))] := hD
    refine lv_aload_n hx hb dXM_recover_33 rfl (lv_at hl 0 rfl) ?_
    refine lv_iconst (v := nI 0) hx hb dXM_recover_34 (by decide) ?_
    refine va_put (D := (dC, dI)) (ci := 3) (v := .int (nI 0)) (ty := .int) (C := "ParityArrayModel") (T := TXM) (N := 9) hx hb hts (fun w h => List.mem_cons_of_mem _ (inXM w h)) tyXM tyXM_ok nmXM hown hK hP hD hS 0 rfl rfl 5 (by decide) (hts _ (List.mem_cons_of_mem _ tw_396)) (fun _ h9 => h9) rfl (by decide +kernel) rfl rfl (Nat.le_of_ble_eq_true rfl) dXM_recover_35 (fun H locs hP hD hS => ?_)
    have hP : va_P (dC, dI) vwCl [(h0, .inr (3, [.ref aB, .int (pz_b false), .int (pz_o (pz_ms x)), .int (pz_b (pz_mf x)), .int (nI (pz_mr x)), .int (nI 0), .int (nI (pz_mw x)), .int (nI (pz_mc x)), .int (nI 1)])), (aB, .inl (cB, 76800, .inl f))] H := hP
    have hD : va_D A [(h0, .inr (3, [.ref aB, .int (pz_b false), .int (pz_o (pz_ms x)), .int (pz_b (pz_mf x)), .int (nI (pz_mr x)), .int (nI 0), .int (nI (pz_mw x)), .int (nI (pz_mc x)), .int (nI 1)])), (aB, .inl (cB, 76800, .inl f))] := hD
    exact W.vret hx hb hr (fun t ht hW => ⟨⟨((pz_mM x, false, pz_ms x, pz_mf x, pz_mr x, 0, pz_mw x, pz_mc x), 1, f), rfl, ⟨by unfold pz_mrec; simp [h2], rfl⟩, by rw [ht]; exact hP, va_K.moved hW.alike hK, hAe ▸ hD⟩, hS.F ht⟩) hS.2.2 dXM_recover_38
  · have hc : ¬ (pz_mF x) = 2 := fun h9 => hc ((nI_eq (a := (pz_mF x)) (b := 2) (by omega) (by omega)).mpr h9)
    have h2 := hc
    refine lv_iconst (v := nI 1) hx hb dXM_recover_9 (by decide) ?_
    refine lv_goto (tgt := 14) hx hb dXM_recover_10 (by decide) ?_
    refine va_put (D := (dC, dI)) (ci := 3) (v := .int (nI 1)) (ty := .boolean) (C := "ParityArrayModel") (T := TXM) (N := 9) hx hb hts (fun w h => List.mem_cons_of_mem _ (inXM w h)) tyXM tyXM_ok nmXM hown hK hP hD hS 0 rfl rfl 1 (by decide) (hts _ (List.mem_cons_of_mem _ tw_392)) (fun _ h9 => h9) rfl (by decide +kernel) rfl rfl (Nat.le_of_ble_eq_true rfl) dXM_recover_14 (fun H locs hP hD hS => ?_)
    have hP : va_P (dC, dI) vwCl [(h0, .inr (3, [.ref aB, .int (pz_b true), .int (pz_o (pz_ms x)), .int (pz_b (pz_mf x)), .int (nI (pz_mr x)), .int (nI (pz_mF x)), .int (nI (pz_mw x)), .int (nI (pz_mc x)), .int (nI th)])), (aB, .inl (cB, 76800, .inl f))] H := hP
    have hD : va_D A [(h0, .inr (3, [.ref aB, .int (pz_b true), .int (pz_o (pz_ms x)), .int (pz_b (pz_mf x)), .int (nI (pz_mr x)), .int (nI (pz_mF x)), .int (nI (pz_mw x)), .int (nI (pz_mc x)), .int (nI th)])), (aB, .inl (cB, 76800, .inl f))] := hD
    refine lv_aload_n hx hb dXM_recover_17 rfl (lv_at hl 0 rfl) ?_
    refine lv_aload_n hx hb dXM_recover_18 rfl (lv_at hl 0 rfl) ?_
    refine va_get (D := (dC, dI)) (ci := 3) (v := .int (pz_b true)) (C := "ParityArrayModel") (T := TXM) (N := 9) hx hb hts (fun w h => List.mem_cons_of_mem _ (inXM w h)) hown hK hP 0 rfl rfl 1 (by decide) (hts _ (List.mem_cons_of_mem _ tw_392)) (fun _ h9 => h9) rfl dXM_recover_19 ?_
    refine lv_if_eq (tgt := 29) hx hb dXM_recover_22 (by decide) (fun hc => absurd hc (by decide)) (fun _ => ?_)
    refine lv_iconst (v := nI 0) hx hb dXM_recover_25 (by decide) ?_
    refine lv_goto (tgt := 30) hx hb dXM_recover_26 (by decide) ?_
    refine va_put (D := (dC, dI)) (ci := 3) (v := .int (nI 0)) (ty := .int) (C := "ParityArrayModel") (T := TXM) (N := 9) hx hb hts (fun w h => List.mem_cons_of_mem _ (inXM w h)) tyXM tyXM_ok nmXM hown hK hP hD hS 0 rfl rfl 8 (by decide) (hts _ (List.mem_cons_of_mem _ tw_399)) (fun _ h9 => h9) rfl (by decide +kernel) rfl rfl (Nat.le_of_ble_eq_true rfl) dXM_recover_30 (fun H locs hP hD hS => ?_)
    have hP : va_P (dC, dI) vwCl [(h0, .inr (3, [.ref aB, .int (pz_b true), .int (pz_o (pz_ms x)), .int (pz_b (pz_mf x)), .int (nI (pz_mr x)), .int (nI (pz_mF x)), .int (nI (pz_mw x)), .int (nI (pz_mc x)), .int (nI 0)])), (aB, .inl (cB, 76800, .inl f))] H := hP
    have hD : va_D A [(h0, .inr (3, [.ref aB, .int (pz_b true), .int (pz_o (pz_ms x)), .int (pz_b (pz_mf x)), .int (nI (pz_mr x)), .int (nI (pz_mF x)), .int (nI (pz_mw x)), .int (nI (pz_mc x)), .int (nI 0)])), (aB, .inl (cB, 76800, .inl f))] := hD
    refine lv_aload_n hx hb dXM_recover_33 rfl (lv_at hl 0 rfl) ?_
    refine lv_iconst (v := nI 0) hx hb dXM_recover_34 (by decide) ?_
    refine va_put (D := (dC, dI)) (ci := 3) (v := .int (nI 0)) (ty := .int) (C := "ParityArrayModel") (T := TXM) (N := 9) hx hb hts (fun w h => List.mem_cons_of_mem _ (inXM w h)) tyXM tyXM_ok nmXM hown hK hP hD hS 0 rfl rfl 5 (by decide) (hts _ (List.mem_cons_of_mem _ tw_396)) (fun _ h9 => h9) rfl (by decide +kernel) rfl rfl (Nat.le_of_ble_eq_true rfl) dXM_recover_35 (fun H locs hP hD hS => ?_)
    have hP : va_P (dC, dI) vwCl [(h0, .inr (3, [.ref aB, .int (pz_b true), .int (pz_o (pz_ms x)), .int (pz_b (pz_mf x)), .int (nI (pz_mr x)), .int (nI 0), .int (nI (pz_mw x)), .int (nI (pz_mc x)), .int (nI 0)])), (aB, .inl (cB, 76800, .inl f))] H := hP
    have hD : va_D A [(h0, .inr (3, [.ref aB, .int (pz_b true), .int (pz_o (pz_ms x)), .int (pz_b (pz_mf x)), .int (nI (pz_mr x)), .int (nI 0), .int (nI (pz_mw x)), .int (nI (pz_mc x)), .int (nI 0)])), (aB, .inl (cB, 76800, .inl f))] := hD
    exact W.vret hx hb hr (fun t ht hW => ⟨⟨((pz_mM x, true, pz_ms x, pz_mf x, pz_mr x, 0, pz_mw x, pz_mc x), 0, f), rfl, ⟨by unfold pz_mrec; simp [h2], rfl⟩, by rw [ht]; exact hP, va_K.moved hW.alike hK, hAe ▸ hD⟩, hS.F ht⟩) hS.2.2 dXM_recover_38

set_option maxHeartbeats 4000000 in
set_option maxRecDepth 100000 in
theorem c_XM_told (l : Launch) (dC : Nat → ClassId) (dI : Nat → Nat → Nat) (sz : Nat) (h0 aB : Nat) (cB : ClassId) (f : Nat → Int32) (x : pz_Mu) (th : Nat) (w0 : Int32) (hm1 : pz_mr x ≤ 150) (hm2 : pz_mF x ≤ 2) (hm3 : pz_mw x ≤ 10) (hm4 : pz_mc x ≤ 200) (hm5 : ∀ e, pz_ms x = some e → e < 5) (hth : th < 10) : Met l yXM_told wsXM_told ({ frames := 1, cells := 0, slots := 0, locals := 21 }) (va_Pc [.ref h0, .int w0] (fun U => U.heap.size = sz ∧ va_P (dC, dI) vwCl (pz_MW h0 aB cB f x th) U.heap ∧ va_K (dC, dI) vwCl [(cB, .byte)] U ∧ va_D (fun _ => True) (pz_MW h0 aB cB f x th))) (va_Qi (fun (r : Int32) (u : pz_Mu × Nat × (Nat → Int32)) => (r, u.2.1) = pz_gT x w0 ∧ u.1 = x ∧ u.2.2 = f) (fun u t => va_P (dC, dI) vwCl (pz_MW h0 aB cB u.2.2 u.1 u.2.1) t.heap ∧ va_K (dC, dI) vwCl [(cB, .byte)] t ∧ va_D (va_A (pz_MW h0 aB cB f x th) sz) (pz_MW h0 aB cB u.2.2 u.1 u.2.1)) (va_A (pz_MW h0 aB cB f x th) sz)) 0 0 (va_A (pz_MW h0 aB cB f x th) sz) := by
  refine Met.ofW (cc := cXM_told) (maxL := 2) (ret := (some .int)) (by decide) rfl ?_
  intro p e s m args below meth c s₁ B hml hv
  obtain ⟨rfl, hsz, hP, hK, hD0⟩ := hv
  have hx := B.exec
  have hb := B.bytes
  have hr := B.returns
  have hts := atoms_spec (ws := wsXM_told) B.pre
  have hown : s.vm.findClass "ParityArrayModel" = some m.cls := findClass_of_methodNamed B.named
  have hlocks := B.notSynchronized
  subst hsz
  have hD := hD0.self (sz := s.heap.size)
  generalize hAe : va_A (pz_MW h0 aB cB f x th) s.heap.size = A at hD ⊢
  have hA : ∀ q : Nat, s.heap.size ≤ q → A q := fun q h => by rw [← hAe]; exact Or.inr h
  have hS : va_S A s.heap s.heap [] := va_S.rf
  have hl := lv_entry ([.ref h0, .int w0]) (n := 2) (Nat.le_of_ble_eq_true rfl)
  rw [lg_entry_eq]
  generalize (lg_sl ([.ref h0, .int w0]) ++ List.replicate (2 - (lg_sl ([.ref h0, .int w0])).length) Slot.unset).toArray = ls at hl ⊢
  have hl : lv_has ls 2 [(0, .ref h0), (1, .int w0)] := hl
  have hP : va_P (dC, dI) vwCl [(h0, .inr (3, [.ref aB, .int (pz_b (pz_mo x)), .int (pz_o (pz_ms x)), .int (pz_b (pz_mf x)), .int (nI (pz_mr x)), .int (nI (pz_mF x)), .int (nI (pz_mw x)), .int (nI (pz_mc x)), .int (nI th)])), (aB, .inl (cB, 76800, .inl f))] s.heap := hP
  have hD : va_D A [(h0, .inr (3, [.ref aB, .int (pz_b (pz_mo x)), .int (pz_o (pz_ms x)), .int (pz_b (pz_mf x)), .int (nI (pz_mr x)), .int (nI (pz_mF x)), .int (nI (pz_mw x)), .int (nI (pz_mc x)), .int (nI th)])), (aB, .inl (cB, 76800, .inl f))] := hD
  refine lv_iload_n hx hb dXM_told_0 rfl (lv_at hl 1 rfl) ?_
  refine lv_if_lt (tgt := 9) hx hb dXM_told_1 (by decide) (fun hc => ?_) (fun hc => ?_)
  · refine lv_aload_n hx hb dXM_told_9 rfl (lv_at hl 0 rfl) ?_
    refine lv_iconst (v := nI 1) hx hb dXM_told_10 (by decide) ?_
    have hPc := hP
    have hDc := hD
    have hFc := va_free (wc := [(h0, .inr (3, [.ref aB, .int (pz_b (pz_mo x)), .int (pz_o (pz_ms x)), .int (pz_b (pz_mf x)), .int (nI (pz_mr x)), .int (nI (pz_mF x)), .int (nI (pz_mw x)), .int (nI (pz_mc x)), .int (nI th)])), (aB, .inl (cB, 76800, .inl f))]) hD hS hA [0, 1] rfl
    refine va_calli (va_runV (As := [.int (nI 1)]) (rest := []) ⟨hx, hb, hml, hown, hts⟩ (c_XM_fails l dC dI _ h0 aB cB f x th 1) (cwV 1 hts (pz_gc (List.mem_cons_of_mem _ tw_427) rfl (pz_gc (List.mem_cons_of_mem _ tw_429) rfl (pz_gc (List.mem_cons_of_mem _ ts_9) rfl (pz_gc (List.mem_cons_of_mem _ tw_4) rfl (pz_gi tcXM_fails))))) rfl rfl rfl (by decide +kernel) ⟨Nat.le_of_ble_eq_true rfl, Nat.le_of_ble_eq_true rfl⟩) (pz_preVw (va_recv hK hPc (q0 := 0) rfl rfl) hPc hK hDc) rfl rfl hl.1 rfl (lv_room (Nat.le_of_ble_eq_true rfl)) dXM_told_11 ⟨Nat.zero_le _, Nat.zero_le _⟩) hS (fun q _ h => hFc q h) hFc (fun r u t H1 locs ht hvm hw hB hz hk1 hS => ?_)
    obtain ⟨hP1, hK1, hD1⟩ := hB
    rw [ht] at hP1
    obtain ⟨rfl, rfl⟩ := hw
    obtain ⟨hP, hD⟩ := va_join (wr := []) hP hD [0, 1] [] rfl rfl (by decide) (by decide) hk1 hFc hP1 hD1
    clear hPc hDc hFc hP1 hD1 hK1 hk1 hz ht hvm
    generalize H1 = H at hP hS ⊢
    have hP : va_P (dC, dI) vwCl [(h0, .inr (3, [.ref aB, .int (pz_b (pz_mo x)), .int (pz_o (pz_ms x)), .int (pz_b (pz_mf x)), .int (nI (pz_mr x)), .int (nI (pz_mF x)), .int (nI (pz_mw x)), .int (nI (pz_mc x)), .int (nI 1)])), (aB, .inl (cB, 76800, .inl f))] H := hP
    have hD : va_D A [(h0, .inr (3, [.ref aB, .int (pz_b (pz_mo x)), .int (pz_o (pz_ms x)), .int (pz_b (pz_mf x)), .int (nI (pz_mr x)), .int (nI (pz_mF x)), .int (nI (pz_mw x)), .int (nI (pz_mc x)), .int (nI 1)])), (aB, .inl (cB, 76800, .inl f))] := hD
    exact W.iret (v := nI 0) hx hb hr (fun t ht hW => ⟨⟨_, (x, 1, f), rfl, ⟨by unfold pz_gT; rw [if_pos (Or.inl hc)], rfl, rfl⟩, by rw [ht]; exact hP, va_K.moved hW.alike hK, hAe ▸ hD⟩, hS.F ht⟩) hS.2.2 dXM_told_14
  · have h1 := hc
    refine lv_iload_n hx hb dXM_told_4 rfl (lv_at hl 1 rfl) ?_
    refine lv_iconst (v := nI 3) hx hb dXM_told_5 (by decide) ?_
    refine lv_icmp_le (tgt := 15) hx hb dXM_told_6 (by decide) (fun hc => ?_) (fun hc => ?_)
    · have hn : ¬ (w0 < 0 ∨ nI 4 ≤ w0) := fun h9 => h9.elim h1 (fun h => Int32.not_lt.mpr h ((pz_lt_succ rfl (by decide)).mp hc))
      refine lv_aload_n hx hb dXM_told_15 rfl (lv_at hl 0 rfl) ?_
      refine lv_iconst (v := nI 0) hx hb dXM_told_16 (by decide) ?_
      refine va_put (D := (dC, dI)) (ci := 3) (v := .int (nI 0)) (ty := .int) (C := "ParityArrayModel") (T := TXM) (N := 9) hx hb hts (fun w h => List.mem_cons_of_mem _ (inXM w h)) tyXM tyXM_ok nmXM hown hK hP hD hS 0 rfl rfl 8 (by decide) (hts _ (List.mem_cons_of_mem _ tw_399)) (fun _ h9 => h9) rfl (by decide +kernel) rfl rfl (Nat.le_of_ble_eq_true rfl) dXM_told_17 (fun H locs hP hD hS => ?_)
      have hP : va_P (dC, dI) vwCl [(h0, .inr (3, [.ref aB, .int (pz_b (pz_mo x)), .int (pz_o (pz_ms x)), .int (pz_b (pz_mf x)), .int (nI (pz_mr x)), .int (nI (pz_mF x)), .int (nI (pz_mw x)), .int (nI (pz_mc x)), .int (nI 0)])), (aB, .inl (cB, 76800, .inl f))] H := hP
      have hD : va_D A [(h0, .inr (3, [.ref aB, .int (pz_b (pz_mo x)), .int (pz_o (pz_ms x)), .int (pz_b (pz_mf x)), .int (nI (pz_mr x)), .int (nI (pz_mF x)), .int (nI (pz_mw x)), .int (nI (pz_mc x)), .int (nI 0)])), (aB, .inl (cB, 76800, .inl f))] := hD
      refine lv_iload_n hx hb dXM_told_20 rfl (lv_at hl 1 rfl) ?_
      refine lv_if_ne (tgt := 39) hx hb dXM_told_21 (by decide) (fun hc => ?_) (fun hc => ?_)
      · have q0 := hc
        refine lv_iload_n hx hb dXM_told_39 rfl (lv_at hl 1 rfl) ?_
        refine lv_iconst (v := nI 1) hx hb dXM_told_40 (by decide) ?_
        refine lv_icmp_ne (tgt := 51) hx hb dXM_told_41 (by decide) (fun hc => ?_) (fun hc => ?_)
        · have q1 := hc
          refine lv_iload_n hx hb dXM_told_51 rfl (lv_at hl 1 rfl) ?_
          refine lv_iconst (v := nI 2) hx hb dXM_told_52 (by decide) ?_
          refine lv_icmp_ne (tgt := 71) hx hb dXM_told_53 (by decide) (fun hc => ?_) (fun hc => ?_)
          · refine lv_aload_n hx hb dXM_told_71 rfl (lv_at hl 0 rfl) ?_
            refine va_get (D := (dC, dI)) (ci := 3) (v := .int (nI (pz_mr x))) (C := "ParityArrayModel") (T := TXM) (N := 9) hx hb hts (fun w h => List.mem_cons_of_mem _ (inXM w h)) hown hK hP 0 rfl rfl 4 (by decide) (hts _ (List.mem_cons_of_mem _ tw_395)) (fun _ h9 => h9) rfl dXM_told_72 ?_
            exact W.iret (v := nI (pz_mr x)) hx hb hr (fun t ht hW => ⟨⟨_, (x, 0, f), rfl, ⟨by unfold pz_gT; rw [if_neg hn, if_neg q0, if_neg q1, if_neg hc], rfl, rfl⟩, by rw [ht]; exact hP, va_K.moved hW.alike hK, hAe ▸ hD⟩, hS.F ht⟩) hS.2.2 dXM_told_75
          · have q2 := hc
            refine lv_aload_n hx hb dXM_told_56 rfl (lv_at hl 0 rfl) ?_
            refine va_get (D := (dC, dI)) (ci := 3) (v := .int (pz_b (pz_mf x))) (C := "ParityArrayModel") (T := TXM) (N := 9) hx hb hts (fun w h => List.mem_cons_of_mem _ (inXM w h)) hown hK hP 0 rfl rfl 3 (by decide) (hts _ (List.mem_cons_of_mem _ tw_394)) (fun _ h9 => h9) rfl dXM_told_57 ?_
            refine lv_if_eq (tgt := 67) hx hb dXM_told_60 (by decide) (fun hc => ?_) (fun hc => ?_)
            · have hc : (pz_mf x) = false := pz_b0.mp hc
              refine lv_iconst (v := nI 0) hx hb dXM_told_67 (by decide) ?_
              refine lv_goto (tgt := 75) hx hb dXM_told_68 (by decide) ?_
              exact W.iret (v := nI 0) hx hb hr (fun t ht hW => ⟨⟨_, (x, 0, f), rfl, ⟨by unfold pz_gT; rw [if_neg hn, if_neg q0, if_neg q1, if_pos q2, hc]; rfl, rfl, rfl⟩, by rw [ht]; exact hP, va_K.moved hW.alike hK, hAe ▸ hD⟩, hS.F ht⟩) hS.2.2 dXM_told_75
            · have hc : (pz_mf x) = true := pz_bn hc
              refine lv_iconst (v := nI 1) hx hb dXM_told_63 (by decide) ?_
              refine lv_goto (tgt := 75) hx hb dXM_told_64 (by decide) ?_
              exact W.iret (v := nI 1) hx hb hr (fun t ht hW => ⟨⟨_, (x, 0, f), rfl, ⟨by unfold pz_gT; rw [if_neg hn, if_neg q0, if_neg q1, if_pos q2, hc]; rfl, rfl, rfl⟩, by rw [ht]; exact hP, va_K.moved hW.alike hK, hAe ▸ hD⟩, hS.F ht⟩) hS.2.2 dXM_told_75
        · refine lv_aload_n hx hb dXM_told_44 rfl (lv_at hl 0 rfl) ?_
          refine va_get (D := (dC, dI)) (ci := 3) (v := .int (pz_o (pz_ms x))) (C := "ParityArrayModel") (T := TXM) (N := 9) hx hb hts (fun w h => List.mem_cons_of_mem _ (inXM w h)) hown hK hP 0 rfl rfl 2 (by decide) (hts _ (List.mem_cons_of_mem _ tw_393)) (fun _ h9 => h9) rfl dXM_told_45 ?_
          refine lv_goto (tgt := 75) hx hb dXM_told_48 (by decide) ?_
          exact W.iret (v := pz_o (pz_ms x)) hx hb hr (fun t ht hW => ⟨⟨_, (x, 0, f), rfl, ⟨by unfold pz_gT; rw [if_neg hn, if_neg q0, if_pos hc], rfl, rfl⟩, by rw [ht]; exact hP, va_K.moved hW.alike hK, hAe ▸ hD⟩, hS.F ht⟩) hS.2.2 dXM_told_75
      · have q0 := hc
        refine lv_aload_n hx hb dXM_told_24 rfl (lv_at hl 0 rfl) ?_
        refine va_get (D := (dC, dI)) (ci := 3) (v := .int (pz_b (pz_mo x))) (C := "ParityArrayModel") (T := TXM) (N := 9) hx hb hts (fun w h => List.mem_cons_of_mem _ (inXM w h)) hown hK hP 0 rfl rfl 1 (by decide) (hts _ (List.mem_cons_of_mem _ tw_392)) (fun _ h9 => h9) rfl dXM_told_25 ?_
        refine lv_if_eq (tgt := 35) hx hb dXM_told_28 (by decide) (fun hc => ?_) (fun hc => ?_)
        · have hc : (pz_mo x) = false := pz_b0.mp hc
          refine lv_iconst (v := nI 0) hx hb dXM_told_35 (by decide) ?_
          refine lv_goto (tgt := 75) hx hb dXM_told_36 (by decide) ?_
          exact W.iret (v := nI 0) hx hb hr (fun t ht hW => ⟨⟨_, (x, 0, f), rfl, ⟨by unfold pz_gT; rw [if_neg hn, if_pos q0, hc]; rfl, rfl, rfl⟩, by rw [ht]; exact hP, va_K.moved hW.alike hK, hAe ▸ hD⟩, hS.F ht⟩) hS.2.2 dXM_told_75
        · have hc : (pz_mo x) = true := pz_bn hc
          refine lv_iconst (v := nI 1) hx hb dXM_told_31 (by decide) ?_
          refine lv_goto (tgt := 75) hx hb dXM_told_32 (by decide) ?_
          exact W.iret (v := nI 1) hx hb hr (fun t ht hW => ⟨⟨_, (x, 0, f), rfl, ⟨by unfold pz_gT; rw [if_neg hn, if_pos q0, hc]; rfl, rfl, rfl⟩, by rw [ht]; exact hP, va_K.moved hW.alike hK, hAe ▸ hD⟩, hS.F ht⟩) hS.2.2 dXM_told_75
    · refine lv_aload_n hx hb dXM_told_9 rfl (lv_at hl 0 rfl) ?_
      refine lv_iconst (v := nI 1) hx hb dXM_told_10 (by decide) ?_
      have hPc := hP
      have hDc := hD
      have hFc := va_free (wc := [(h0, .inr (3, [.ref aB, .int (pz_b (pz_mo x)), .int (pz_o (pz_ms x)), .int (pz_b (pz_mf x)), .int (nI (pz_mr x)), .int (nI (pz_mF x)), .int (nI (pz_mw x)), .int (nI (pz_mc x)), .int (nI th)])), (aB, .inl (cB, 76800, .inl f))]) hD hS hA [0, 1] rfl
      refine va_calli (va_runV (As := [.int (nI 1)]) (rest := []) ⟨hx, hb, hml, hown, hts⟩ (c_XM_fails l dC dI _ h0 aB cB f x th 1) (cwV 1 hts (pz_gc (List.mem_cons_of_mem _ tw_427) rfl (pz_gc (List.mem_cons_of_mem _ tw_429) rfl (pz_gc (List.mem_cons_of_mem _ ts_9) rfl (pz_gc (List.mem_cons_of_mem _ tw_4) rfl (pz_gi tcXM_fails))))) rfl rfl rfl (by decide +kernel) ⟨Nat.le_of_ble_eq_true rfl, Nat.le_of_ble_eq_true rfl⟩) (pz_preVw (va_recv hK hPc (q0 := 0) rfl rfl) hPc hK hDc) rfl rfl hl.1 rfl (lv_room (Nat.le_of_ble_eq_true rfl)) dXM_told_11 ⟨Nat.zero_le _, Nat.zero_le _⟩) hS (fun q _ h => hFc q h) hFc (fun r u t H1 locs ht hvm hw hB hz hk1 hS => ?_)
      obtain ⟨hP1, hK1, hD1⟩ := hB
      rw [ht] at hP1
      obtain ⟨rfl, rfl⟩ := hw
      obtain ⟨hP, hD⟩ := va_join (wr := []) hP hD [0, 1] [] rfl rfl (by decide) (by decide) hk1 hFc hP1 hD1
      clear hPc hDc hFc hP1 hD1 hK1 hk1 hz ht hvm
      generalize H1 = H at hP hS ⊢
      have hP : va_P (dC, dI) vwCl [(h0, .inr (3, [.ref aB, .int (pz_b (pz_mo x)), .int (pz_o (pz_ms x)), .int (pz_b (pz_mf x)), .int (nI (pz_mr x)), .int (nI (pz_mF x)), .int (nI (pz_mw x)), .int (nI (pz_mc x)), .int (nI 1)])), (aB, .inl (cB, 76800, .inl f))] H := hP
      have hD : va_D A [(h0, .inr (3, [.ref aB, .int (pz_b (pz_mo x)), .int (pz_o (pz_ms x)), .int (pz_b (pz_mf x)), .int (nI (pz_mr x)), .int (nI (pz_mF x)), .int (nI (pz_mw x)), .int (nI (pz_mc x)), .int (nI 1)])), (aB, .inl (cB, 76800, .inl f))] := hD
      exact W.iret (v := nI 0) hx hb hr (fun t ht hW => ⟨⟨_, (x, 1, f), rfl, ⟨by unfold pz_gT; rw [if_pos (Or.inr (Int32.not_lt.mp fun h9 => hc ((pz_lt_succ rfl (by decide)).mpr h9)))], rfl, rfl⟩, by rw [ht]; exact hP, va_K.moved hW.alike hK, hAe ▸ hD⟩, hS.F ht⟩) hS.2.2 dXM_told_14

set_option maxHeartbeats 4000000 in
set_option maxRecDepth 100000 in
theorem c_XM_check (l : Launch) (dC : Nat → ClassId) (dI : Nat → Nat → Nat) (sz : Nat) (h0 aB : Nat) (cB : ClassId) (f : Nat → Int32) (x : pz_Mu) (th : Nat) (hm1 : pz_mr x ≤ 150) (hm2 : pz_mF x ≤ 2) (hm3 : pz_mw x ≤ 10) (hm4 : pz_mc x ≤ 200) (hm5 : ∀ e, pz_ms x = some e → e < 5) (hth : th < 10) : Met l yXM_check wsXM_check ({ frames := 0, cells := 0, slots := 0, locals := 0 }) (va_Pc [.ref h0] (fun U => U.heap.size = sz ∧ va_P (dC, dI) vwCl (pz_MW h0 aB cB f x th) U.heap ∧ va_K (dC, dI) vwCl [(cB, .byte)] U ∧ va_D (fun _ => True) (pz_MW h0 aB cB f x th))) (va_Qi (fun (r : Int32) (u : pz_Mu × Nat × (Nat → Int32)) => r = nI 0 ∧ u = (x, (if pz_mo x = true then 0 else 1), f)) (fun u t => va_P (dC, dI) vwCl (pz_MW h0 aB cB u.2.2 u.1 u.2.1) t.heap ∧ va_K (dC, dI) vwCl [(cB, .byte)] t ∧ va_D (va_A (pz_MW h0 aB cB f x th) sz) (pz_MW h0 aB cB u.2.2 u.1 u.2.1)) (va_A (pz_MW h0 aB cB f x th) sz)) 0 0 (va_A (pz_MW h0 aB cB f x th) sz) := by
  refine Met.ofW (cc := cXM_check) (maxL := 1) (ret := (some .int)) (by decide) rfl ?_
  intro p e s m args below meth c s₁ B hml hv
  obtain ⟨rfl, hsz, hP, hK, hD0⟩ := hv
  have hx := B.exec
  have hb := B.bytes
  have hr := B.returns
  have hts := atoms_spec (ws := wsXM_check) B.pre
  have hown : s.vm.findClass "ParityArrayModel" = some m.cls := findClass_of_methodNamed B.named
  have hlocks := B.notSynchronized
  subst hsz
  have hD := hD0.self (sz := s.heap.size)
  generalize hAe : va_A (pz_MW h0 aB cB f x th) s.heap.size = A at hD ⊢
  have hA : ∀ q : Nat, s.heap.size ≤ q → A q := fun q h => by rw [← hAe]; exact Or.inr h
  have hS : va_S A s.heap s.heap [] := va_S.rf
  have hl := lv_entry ([.ref h0]) (n := 1) (Nat.le_of_ble_eq_true rfl)
  rw [lg_entry_eq]
  generalize (lg_sl ([.ref h0]) ++ List.replicate (1 - (lg_sl ([.ref h0])).length) Slot.unset).toArray = ls at hl ⊢
  have hl : lv_has ls 1 [(0, .ref h0)] := hl
  have hP : va_P (dC, dI) vwCl [(h0, .inr (3, [.ref aB, .int (pz_b (pz_mo x)), .int (pz_o (pz_ms x)), .int (pz_b (pz_mf x)), .int (nI (pz_mr x)), .int (nI (pz_mF x)), .int (nI (pz_mw x)), .int (nI (pz_mc x)), .int (nI th)])), (aB, .inl (cB, 76800, .inl f))] s.heap := hP
  have hD : va_D A [(h0, .inr (3, [.ref aB, .int (pz_b (pz_mo x)), .int (pz_o (pz_ms x)), .int (pz_b (pz_mf x)), .int (nI (pz_mr x)), .int (nI (pz_mF x)), .int (nI (pz_mw x)), .int (nI (pz_mc x)), .int (nI th)])), (aB, .inl (cB, 76800, .inl f))] := hD
  refine lv_aload_n hx hb dXM_check_0 rfl (lv_at hl 0 rfl) ?_
  refine lv_aload_n hx hb dXM_check_1 rfl (lv_at hl 0 rfl) ?_
  refine va_get (D := (dC, dI)) (ci := 3) (v := .int (pz_b (pz_mo x))) (C := "ParityArrayModel") (T := TXM) (N := 9) hx hb hts (fun w h => List.mem_cons_of_mem _ (inXM w h)) hown hK hP 0 rfl rfl 1 (by decide) (hts _ (List.mem_cons_of_mem _ tw_392)) (fun _ h9 => h9) rfl dXM_check_2 ?_
  refine lv_if_eq (tgt := 12) hx hb dXM_check_5 (by decide) (fun hc => ?_) (fun hc => ?_)
  · have hc : (pz_mo x) = false := pz_b0.mp hc
    refine lv_iconst (v := nI 1) hx hb dXM_check_12 (by decide) ?_
    refine va_put (D := (dC, dI)) (ci := 3) (v := .int (nI 1)) (ty := .int) (C := "ParityArrayModel") (T := TXM) (N := 9) hx hb hts (fun w h => List.mem_cons_of_mem _ (inXM w h)) tyXM tyXM_ok nmXM hown hK hP hD hS 0 rfl rfl 8 (by decide) (hts _ (List.mem_cons_of_mem _ tw_399)) (fun _ h9 => h9) rfl (by decide +kernel) rfl rfl (Nat.le_of_ble_eq_true rfl) dXM_check_13 (fun H locs hP hD hS => ?_)
    have hP : va_P (dC, dI) vwCl [(h0, .inr (3, [.ref aB, .int (pz_b (pz_mo x)), .int (pz_o (pz_ms x)), .int (pz_b (pz_mf x)), .int (nI (pz_mr x)), .int (nI (pz_mF x)), .int (nI (pz_mw x)), .int (nI (pz_mc x)), .int (nI 1)])), (aB, .inl (cB, 76800, .inl f))] H := hP
    have hD : va_D A [(h0, .inr (3, [.ref aB, .int (pz_b (pz_mo x)), .int (pz_o (pz_ms x)), .int (pz_b (pz_mf x)), .int (nI (pz_mr x)), .int (nI (pz_mF x)), .int (nI (pz_mw x)), .int (nI (pz_mc x)), .int (nI 1)])), (aB, .inl (cB, 76800, .inl f))] := hD
    refine lv_iconst (v := nI 0) hx hb dXM_check_16 (by decide) ?_
    exact W.iret (v := nI 0) hx hb hr (fun t ht hW => ⟨⟨_, (x, 1, f), rfl, ⟨rfl, by rw [hc]; rfl⟩, by rw [ht]; exact hP, va_K.moved hW.alike hK, hAe ▸ hD⟩, hS.F ht⟩) hS.2.2 dXM_check_17
  · have hc : (pz_mo x) = true := pz_bn hc
    refine lv_iconst (v := nI 0) hx hb dXM_check_8 (by decide) ?_
    refine lv_goto (tgt := 13) hx hb dXM_check_9 (by decide) ?_
    refine va_put (D := (dC, dI)) (ci := 3) (v := .int (nI 0)) (ty := .int) (C := "ParityArrayModel") (T := TXM) (N := 9) hx hb hts (fun w h => List.mem_cons_of_mem _ (inXM w h)) tyXM tyXM_ok nmXM hown hK hP hD hS 0 rfl rfl 8 (by decide) (hts _ (List.mem_cons_of_mem _ tw_399)) (fun _ h9 => h9) rfl (by decide +kernel) rfl rfl (Nat.le_of_ble_eq_true rfl) dXM_check_13 (fun H locs hP hD hS => ?_)
    have hP : va_P (dC, dI) vwCl [(h0, .inr (3, [.ref aB, .int (pz_b (pz_mo x)), .int (pz_o (pz_ms x)), .int (pz_b (pz_mf x)), .int (nI (pz_mr x)), .int (nI (pz_mF x)), .int (nI (pz_mw x)), .int (nI (pz_mc x)), .int (nI 0)])), (aB, .inl (cB, 76800, .inl f))] H := hP
    have hD : va_D A [(h0, .inr (3, [.ref aB, .int (pz_b (pz_mo x)), .int (pz_o (pz_ms x)), .int (pz_b (pz_mf x)), .int (nI (pz_mr x)), .int (nI (pz_mF x)), .int (nI (pz_mw x)), .int (nI (pz_mc x)), .int (nI 0)])), (aB, .inl (cB, 76800, .inl f))] := hD
    refine lv_iconst (v := nI 0) hx hb dXM_check_16 (by decide) ?_
    exact W.iret (v := nI 0) hx hb hr (fun t ht hW => ⟨⟨_, (x, 0, f), rfl, ⟨rfl, by rw [hc]; rfl⟩, by rw [ht]; exact hP, va_K.moved hW.alike hK, hAe ▸ hD⟩, hS.F ht⟩) hS.2.2 dXM_check_17

