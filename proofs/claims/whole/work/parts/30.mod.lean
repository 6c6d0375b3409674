/-! the reference: its world and its methods (laid by a program) -/
def pz_MW (h0 aB : Nat) (cB : ClassId) (f : Nat → Int32) (x : pz_Mu) (th : Nat) : va_W := [(h0, .inr (3, [.ref aB, .int (pz_b (pz_mo x)), .int (pz_o (pz_ms x)), .int (pz_b (pz_mf x)), .int (nI (pz_mr x)), .int (nI (pz_mF x)), .int (nI (pz_mw x)), .int (nI (pz_mc x)), .int (nI th)])), (aB, .inl (cB, 76800, .inl f))]
theorem pz_hm5 {x : pz_Mu} (h : ∀ e, pz_ms x = some e → e < 5) : ∀ e, pz_ms x = some e → e < 600 := fun e h9 => by have := h e h9; omega
def pz_gS (x : pz_Mu) (n i : Int32) (w : Int64) : Int64 × pz_Mu × Nat := if pz_mo x = false then (0, x, 1) else if pz_isL n i = false then (0, x, 2) else (if pz_mF x = 1 then 0 else pz_mM x (16 * n.toNatClampNeg + i.toNatClampNeg), pz_mset x n.toNatClampNeg i.toNatClampNeg w, if pz_mF x = 1 then 3 else 0)
def pz_gG (x : pz_Mu) (n i : Int32) : Int64 × Nat := if pz_mo x = false then (0, 1) else if pz_isL n i = false then (0, 2) else (pz_mM x (16 * n.toNatClampNeg + i.toNatClampNeg), 0)
set_option maxHeartbeats 4000000 in
set_option maxRecDepth 100000 in
theorem c_XM_thrown (l : Launch) (dC : Nat → ClassId) (dI : Nat → Nat → Nat) (h0 aB : Nat) (cB : ClassId) (f : Nat → Int32) (x : pz_Mu) (th : Nat) : Met l yXM_thrown wsXM_thrown ({ frames := 0, cells := 0, slots := 0, locals := 0 }) (va_Pc [.ref h0] (fun U => va_P (dC, dI) vwCl (pz_MW h0 aB cB f x th) U.heap ∧ va_K (dC, dI) vwCl [(cB, .byte)] U)) (va_Qi (fun (r : Int32) (u : Unit) => r = nI th) (fun _ _ => True) (fun _ => False)) 0 0 (fun _ => False) := by
  refine Met.ofW (cc := cXM_thrown) (maxL := 1) (ret := (some .int)) (by decide) rfl ?_
  intro p e s m args below meth c s₁ B hml hv
  obtain ⟨rfl, hP, hK⟩ := hv
  have hx := B.exec
  have hb := B.bytes
  have hr := B.returns
  have hts := atoms_spec (ws := wsXM_thrown) B.pre
  have hown : s.vm.findClass "ParityArrayModel" = some m.cls := findClass_of_methodNamed B.named
  have hlocks := B.notSynchronized
  have hS : va_S (fun _ => False) s.heap s.heap [] := va_S.rf
  have hl := lv_entry ([.ref h0]) (n := 1) (Nat.le_of_ble_eq_true rfl)
  rw [lg_entry_eq]
  generalize (lg_sl ([.ref h0]) ++ List.replicate (1 - (lg_sl ([.ref h0])).length) Slot.unset).toArray = ls at hl ⊢
  have hl : lv_has ls 1 [(0, .ref h0)] := hl
  have hP : va_P (dC, dI) vwCl [(h0, .inr (3, [.ref aB, .int (pz_b (pz_mo x)), .int (pz_o (pz_ms x)), .int (pz_b (pz_mf x)), .int (nI (pz_mr x)), .int (nI (pz_mF x)), .int (nI (pz_mw x)), .int (nI (pz_mc x)), .int (nI th)])), (aB, .inl (cB, 76800, .inl f))] s.heap := hP
  refine lv_aload_n hx hb dXM_thrown_0 rfl (lv_at hl 0 rfl) ?_
  refine va_get (D := (dC, dI)) (ci := 3) (v := .int (nI th)) (C := "ParityArrayModel") (T := TXM) (N := 9) hx hb hts (fun w h => List.mem_cons_of_mem _ (inXM w h)) hown hK hP 0 rfl rfl 8 (by decide) (hts _ (List.mem_cons_of_mem _ tw_399)) (fun _ h9 => h9) rfl dXM_thrown_1 ?_
  exact W.iret (v := nI th) hx hb hr (fun t ht hW => ⟨⟨_, (), rfl, rfl, trivial⟩, hS.F ht⟩) hS.2.2 dXM_thrown_4

set_option maxHeartbeats 4000000 in
set_option maxRecDepth 100000 in
theorem c_XM_fails (l : Launch) (dC : Nat → ClassId) (dI : Nat → Nat → Nat) (sz : Nat) (h0 aB : Nat) (cB : ClassId) (f : Nat → Int32) (x : pz_Mu) (th : Nat) (c0 : Nat) : Met l yXM_fails wsXM_fails ({ frames := 0, cells := 0, slots := 0, locals := 0 }) (va_Pc [.ref h0, .int (nI c0)] (fun U => U.heap.size = sz ∧ va_P (dC, dI) vwCl (pz_MW h0 aB cB f x th) U.heap ∧ va_K (dC, dI) vwCl [(cB, .byte)] U ∧ va_D (fun _ => True) (pz_MW h0 aB cB f x th))) (va_Qi (fun (r : Int32) (u : pz_Mu × Nat × (Nat → Int32)) => r = nI 0 ∧ u = (x, c0, f)) (fun u t => va_P (dC, dI) vwCl (pz_MW h0 aB cB u.2.2 u.1 u.2.1) t.heap ∧ va_K (dC, dI) vwCl [(cB, .byte)] t ∧ va_D (va_A (pz_MW h0 aB cB f x th) sz) (pz_MW h0 aB cB u.2.2 u.1 u.2.1)) (va_A (pz_MW h0 aB cB f x th) sz)) 0 0 (va_A (pz_MW h0 aB cB f x th) sz) := by
  refine Met.ofW (cc := cXM_fails) (maxL := 2) (ret := (some .int)) (by decide) rfl ?_
  intro p e s m args below meth c s₁ B hml hv
  obtain ⟨rfl, hsz, hP, hK, hD0⟩ := hv
  have hx := B.exec
  have hb := B.bytes
  have hr := B.returns
  have hts := atoms_spec (ws := wsXM_fails) B.pre
  have hown : s.vm.findClass "ParityArrayModel" = some m.cls := findClass_of_methodNamed B.named
  have hlocks := B.notSynchronized
  subst hsz
  have hD := hD0.self (sz := s.heap.size)
  generalize hAe : va_A (pz_MW h0 aB cB f x th) s.heap.size = A at hD ⊢
  have hA : ∀ q : Nat, s.heap.size ≤ q → A q := fun q h => by rw [← hAe]; exact Or.inr h
  have hS : va_S A s.heap s.heap [] := va_S.rf
  have hl := lv_entry ([.ref h0, .int (nI c0)]) (n := 2) (Nat.le_of_ble_eq_true rfl)
  rw [lg_entry_eq]
  generalize (lg_sl ([.ref h0, .int (nI c0)]) ++ List.replicate (2 - (lg_sl ([.ref h0, .int (nI c0)])).length) Slot.unset).toArray = ls at hl ⊢
  have hl : lv_has ls 2 [(0, .ref h0), (1, .int (nI c0))] := hl
  have hP : va_P (dC, dI) vwCl [(h0, .inr (3, [.ref aB, .int (pz_b (pz_mo x)), .int (pz_o (pz_ms x)), .int (pz_b (pz_mf x)), .int (nI (pz_mr x)), .int (nI (pz_mF x)), .int (nI (pz_mw x)), .int (nI (pz_mc x)), .int (nI th)])), (aB, .inl (cB, 76800, .inl f))] s.heap := hP
  have hD : va_D A [(h0, .inr (3, [.ref aB, .int (pz_b (pz_mo x)), .int (pz_o (pz_ms x)), .int (pz_b (pz_mf x)), .int (nI (pz_mr x)), .int (nI (pz_mF x)), .int (nI (pz_mw x)), .int (nI (pz_mc x)), .int (nI th)])), (aB, .inl (cB, 76800, .inl f))] := hD
  refine lv_aload_n hx hb dXM_fails_0 rfl (lv_at hl 0 rfl) ?_
  refine lv_iload_n hx hb dXM_fails_1 rfl (lv_at hl 1 rfl) ?_
  refine va_put (D := (dC, dI)) (ci := 3) (v := .int (nI c0)) (ty := .int) (C := "ParityArrayModel") (T := TXM) (N := 9) hx hb hts (fun w h => List.mem_cons_of_mem _ (inXM w h)) tyXM tyXM_ok nmXM hown hK hP hD hS 0 rfl rfl 8 (by decide) (hts _ (List.mem_cons_of_mem _ tw_399)) (fun _ h9 => h9) rfl (by decide +kernel) rfl rfl (Nat.le_of_ble_eq_true rfl) dXM_fails_2 (fun H locs hP hD hS => ?_)
  have hP : va_P (dC, dI) vwCl [(h0, .inr (3, [.ref aB, .int (pz_b (pz_mo x)), .int (pz_o (pz_ms x)), .int (pz_b (pz_mf x)), .int (nI (pz_mr x)), .int (nI (pz_mF x)), .int (nI (pz_mw x)), .int (nI (pz_mc x)), .int (nI c0)])), (aB, .inl (cB, 76800, .inl f))] H := hP
  have hD : va_D A [(h0, .inr (3, [.ref aB, .int (pz_b (pz_mo x)), .int (pz_o (pz_ms x)), .int (pz_b (pz_mf x)), .int (nI (pz_mr x)), .int (nI (pz_mF x)), .int (nI (pz_mw x)), .int (nI (pz_mc x)), .int (nI c0)])), (aB, .inl (cB, 76800, .inl f))] := hD
  refine lv_iconst (v := nI 0) hx hb dXM_fails_5 (by decide) ?_
  exact W.iret (v := nI 0) hx hb hr (fun t ht hW => ⟨⟨_, (x, c0, f), rfl, ⟨rfl, rfl⟩, by rw [ht]; exact hP, va_K.moved hW.alike hK, hAe ▸ hD⟩, hS.F ht⟩) hS.2.2 dXM_fails_6

set_option maxHeartbeats 4000000 in
set_option maxRecDepth 100000 in
theorem c_XM_isThere (l : Launch) (dC : Nat → ClassId) (dI : Nat → Nat → Nat) (h0 aB : Nat) (cB : ClassId) (f : Nat → Int32) (x : pz_Mu) (th : Nat) (d0 s0 : Nat) (hm1 : pz_mr x ≤ 150) (hm2 : pz_mF x ≤ 2) (hm3 : pz_mw x ≤ 10) (hm4 : pz_mc x ≤ 200) (hm5 : ∀ e, pz_ms x = some e → e < 5) (hth : th < 10) (hd0 : d0 < 5) (hs0 : s0 < 150) : Met l yXM_isThere wsXM_isThere ({ frames := 0, cells := 0, slots := 0, locals := 0 }) (va_Pc [.ref h0, .int (nI d0), .int (nI s0)] (fun U => va_P (dC, dI) vwCl (pz_MW h0 aB cB f x th) U.heap ∧ va_K (dC, dI) vwCl [(cB, .byte)] U)) (va_Qi (fun (r : Int32) (u : Unit) => r = pz_b (decide (pz_ms x ≠ some d0 ∨ (pz_mf x = true ∧ s0 < pz_mr x)))) (fun _ _ => True) (fun _ => False)) 0 0 (fun _ => False) := by
  refine Met.ofW (cc := cXM_isThere) (maxL := 3) (ret := (some .boolean)) (by decide) rfl ?_
  intro p e s m args below meth c s₁ B hml hv
  obtain ⟨rfl, hP, hK⟩ := hv
  have hx := B.exec
  have hb := B.bytes
  have hr := B.returns
  have hts := atoms_spec (ws := wsXM_isThere) B.pre
  have hown : s.vm.findClass "ParityArrayModel" = some m.cls := findClass_of_methodNamed B.named
  have hlocks := B.notSynchronized
  have hS : va_S (fun _ => False) s.heap s.heap [] := va_S.rf
  have hl := lv_entry ([.ref h0, .int (nI d0), .int (nI s0)]) (n := 3) (Nat.le_of_ble_eq_true rfl)
  rw [lg_entry_eq]
  generalize (lg_sl ([.ref h0, .int (nI d0), .int (nI s0)]) ++ List.replicate (3 - (lg_sl ([.ref h0, .int (nI d0), .int (nI s0)])).length) Slot.unset).toArray = ls at hl ⊢
  have hl : lv_has ls 3 [(0, .ref h0), (1, .int (nI d0)), (2, .int (nI s0))] := hl
  have hP : va_P (dC, dI) vwCl [(h0, .inr (3, [.ref aB, .int (pz_b (pz_mo x)), .int (pz_o (pz_ms x)), .int (pz_b (pz_mf x)), .int (nI (pz_mr x)), .int (nI (pz_mF x)), .int (nI (pz_mw x)), .int (nI (pz_mc x)), .int (nI th)])), (aB, .inl (cB, 76800, .inl f))] s.heap := hP
  refine lv_iload_n hx hb dXM_isThere_0 rfl (lv_at hl 1 rfl) ?_
  refine lv_aload_n hx hb dXM_isThere_1 rfl (lv_at hl 0 rfl) ?_
  refine va_get (D := (dC, dI)) (ci := 3) (v := .int (pz_o (pz_ms x))) (C := "ParityArrayModel") (T := TXM) (N := 9) hx hb hts (fun w h => List.mem_cons_of_mem _ (inXM w h)) hown hK hP 0 rfl rfl 2 (by decide) (hts _ (List.mem_cons_of_mem _ tw_393)) (fun _ h9 => h9) rfl dXM_isThere_2 ?_
  refine lv_icmp_ne (tgt := 23) hx hb dXM_isThere_5 (by decide) (fun hc => ?_) (fun hc => ?_)
  · refine lv_iconst (v := nI 1) hx hb dXM_isThere_23 (by decide) ?_
    refine lv_goto (tgt := 28) hx hb dXM_isThere_24 (by decide) ?_
    exact W.zret (v := nI 1) hx hb hr rfl (fun t ht hW => ⟨⟨_, (), rfl, by rw [decide_eq_true (show pz_ms x ≠ some d0 ∨ (pz_mf x = true ∧ s0 < pz_mr x) from Or.inl fun h9 => hc ((pz_oeq (by omega) (pz_hm5 hm5)).mpr h9).symm)]; rfl, trivial⟩, hS.F ht⟩) hS.2.2 dXM_isThere_28
  · have hsk : pz_ms x = some d0 := (pz_oeq (by omega) (pz_hm5 hm5)).mp hc.symm
    refine lv_aload_n hx hb dXM_isThere_8 rfl (lv_at hl 0 rfl) ?_
    refine va_get (D := (dC, dI)) (ci := 3) (v := .int (pz_b (pz_mf x))) (C := "ParityArrayModel") (T := TXM) (N := 9) hx hb hts (fun w h => List.mem_cons_of_mem _ (inXM w h)) hown hK hP 0 rfl rfl 3 (by decide) (hts _ (List.mem_cons_of_mem _ tw_394)) (fun _ h9 => h9) rfl dXM_isThere_9 ?_
    refine lv_if_eq (tgt := 27) hx hb dXM_isThere_12 (by decide) (fun hc => ?_) (fun hc => ?_)
    · have hc : (pz_mf x) = false := pz_b0.mp hc
      refine lv_iconst (v := nI 0) hx hb dXM_isThere_27 (by decide) ?_
      exact W.zret (v := nI 0) hx hb hr rfl (fun t ht hW => ⟨⟨_, (), rfl, by rw [decide_eq_false (fun h9 => h9.elim (fun h => h hsk) (fun h => by rw [hc] at h; exact absurd h.1 (by decide)))]; rfl, trivial⟩, hS.F ht⟩) hS.2.2 dXM_isThere_28
    · have hc : (pz_mf x) = true := pz_bn hc
      have hf := hc
      refine lv_iload_n hx hb dXM_isThere_15 rfl (lv_at hl 2 rfl) ?_
      refine lv_aload_n hx hb dXM_isThere_16 rfl (lv_at hl 0 rfl) ?_
      refine va_get (D := (dC, dI)) (ci := 3) (v := .int (nI (pz_mr x))) (C := "ParityArrayModel") (T := TXM) (N := 9) hx hb hts (fun w h => List.mem_cons_of_mem _ (inXM w h)) hown hK hP 0 rfl rfl 4 (by decide) (hts _ (List.mem_cons_of_mem _ tw_395)) (fun _ h9 => h9) rfl dXM_isThere_17 ?_
      refine lv_icmp_ge (tgt := 27) hx hb dXM_isThere_20 (by decide) (fun hc => ?_) (fun hc => ?_)
      · have hc : (pz_mr x) ≤ s0 := (nI_leI (a := (pz_mr x)) (b := s0) (by omega) (by omega)).mp hc
        refine lv_iconst (v := nI 0) hx hb dXM_isThere_27 (by decide) ?_
        exact W.zret (v := nI 0) hx hb hr rfl (fun t ht hW => ⟨⟨_, (), rfl, by rw [decide_eq_false (fun h9 => h9.elim (fun h => h hsk) (fun h => by omega))]; rfl, trivial⟩, hS.F ht⟩) hS.2.2 dXM_isThere_28
      · have hc : ¬ (pz_mr x) ≤ s0 := fun h9 => hc ((nI_leI (a := (pz_mr x)) (b := s0) (by omega) (by omega)).mpr h9)
        refine lv_iconst (v := nI 1) hx hb dXM_isThere_23 (by decide) ?_
        refine lv_goto (tgt := 28) hx hb dXM_isThere_24 (by decide) ?_
        exact W.zret (v := nI 1) hx hb hr rfl (fun t ht hW => ⟨⟨_, (), rfl, by rw [decide_eq_true (show pz_ms x ≠ some d0 ∨ (pz_mf x = true ∧ s0 < pz_mr x) from Or.inr ⟨hf, by omega⟩)]; rfl, trivial⟩, hS.F ht⟩) hS.2.2 dXM_isThere_28

set_option maxHeartbeats 4000000 in
set_option maxRecDepth 100000 in
theorem c_XM_fresh (l : Launch) (dC : Nat → ClassId) (dI : Nat → Nat → Nat) (h0 aB : Nat) (cB : ClassId) (f : Nat → Int32) (x : pz_Mu) (th : Nat) (n0 : Nat) (hm1 : pz_mr x ≤ 150) (hm2 : pz_mF x ≤ 2) (hm3 : pz_mw x ≤ 10) (hm4 : pz_mc x ≤ 200) (hm5 : ∀ e, pz_ms x = some e → e < 5) (hth : th < 10) (hn0 : n0 < 600) : Met l yXM_fresh wsXM_fresh ({ frames := 1, cells := 0, slots := 0, locals := 22 }) (va_Pc [.ref h0, .int (nI n0)] (fun U => va_P (dC, dI) vwCl (pz_MW h0 aB cB f x th) U.heap ∧ va_K (dC, dI) vwCl [(cB, .byte)] U)) (va_Qi (fun (r : Int32) (u : Unit) => r = nI (pz_now x n0)) (fun _ _ => True) (fun _ => False)) 0 0 (fun _ => False) := by
  refine Met.ofW (cc := cXM_fresh) (maxL := 4) (ret := (some .int)) (by decide) rfl ?_
  intro p e s m args below meth c s₁ B hml hv
  obtain ⟨rfl, hP, hK⟩ := hv
  have hx := B.exec
  have hb := B.bytes
  have hr := B.returns
  have hts := atoms_spec (ws := wsXM_fresh) B.pre
  have hown : s.vm.findClass "ParityArrayModel" = some m.cls := findClass_of_methodNamed B.named
  have hlocks := B.notSynchronized
  have hS : va_S (fun _ => False) s.heap s.heap [] := va_S.rf
  have hl := lv_entry ([.ref h0, .int (nI n0)]) (n := 4) (Nat.le_of_ble_eq_true rfl)
  rw [lg_entry_eq]
  generalize (lg_sl ([.ref h0, .int (nI n0)]) ++ List.replicate (4 - (lg_sl ([.ref h0, .int (nI n0)])).length) Slot.unset).toArray = ls at hl ⊢
  have hl : lv_has ls 4 [(0, .ref h0), (1, .int (nI n0))] := hl
  have hP : va_P (dC, dI) vwCl [(h0, .inr (3, [.ref aB, .int (pz_b (pz_mo x)), .int (pz_o (pz_ms x)), .int (pz_b (pz_mf x)), .int (nI (pz_mr x)), .int (nI (pz_mF x)), .int (nI (pz_mw x)), .int (nI (pz_mc x)), .int (nI th)])), (aB, .inl (cB, 76800, .inl f))] s.heap := hP
  refine lv_iload_n hx hb dXM_fresh_0 rfl (lv_at hl 1 rfl) ?_
  refine lv_iconst (v := nI 4) hx hb dXM_fresh_1 (by decide) ?_
  refine lv_idiv hx hb dXM_fresh_2 (by decide) ?_
  refine lv_topi (nm_r (pk_div (by omega) (by decide) (by decide)) ?_)
  refine lv_istore_n hx hb dXM_fresh_3 rfl hl (by decide) rfl (fun ls hl => ?_)
  have hl : lv_has ls 4 [(2, .int (nI (n0 / 4))), (0, .ref h0), (1, .int (nI n0))] := hl
  refine lv_aload_n hx hb dXM_fresh_4 rfl (lv_at hl 1 rfl) ?_
  refine lv_iload_n hx hb dXM_fresh_5 rfl (lv_at hl 0 rfl) ?_
  refine lv_iconst (v := nI 5) hx hb dXM_fresh_6 (by decide) ?_
  refine lv_irem hx hb dXM_fresh_7 (by decide) ?_
  refine lv_topi (nm_r (pk_rem (by omega) (by decide) (by decide)) ?_)
  refine lv_iload_n hx hb dXM_fresh_8 rfl (lv_at hl 0 rfl) ?_
  refine va_calli (va_runV (As := [.int (nI ((n0 / 4) % 5)), .int (nI (n0 / 4))]) (rest := []) ⟨hx, hb, hml, hown, hts⟩ (c_XM_isThere l dC dI h0 aB cB f x th (n0 / 4 % 5) (n0 / 4) hm1 hm2 hm3 hm4 hm5 hth (by omega) (by omega)) (cwV 2 hts (pz_gc (List.mem_cons_of_mem _ tw_439) rfl (pz_gc (List.mem_cons_of_mem _ tw_441) rfl (pz_gc (List.mem_cons_of_mem _ ts_12) rfl (pz_gc (List.mem_cons_of_mem _ tw_4) rfl (pz_gi tcXM_isThere))))) rfl rfl rfl (by decide +kernel) ⟨Nat.le_of_ble_eq_true rfl, Nat.le_of_ble_eq_true rfl⟩) (pz_preV (va_recv hK hP (q0 := 0) rfl rfl) hP hK) rfl rfl hl.1 rfl (lv_room (Nat.le_of_ble_eq_true rfl)) dXM_fresh_9 ⟨Nat.zero_le _, Nat.zero_le _⟩) hS (fun q _ h => h.elim) (fun q h => h.elim) (fun r u t H locs ht hvm hw _ hz hk9 hS => ?_)
  have hP := pz_keep hP hk9
  clear hk9 hz ht hvm
  subst hw
  refine lv_if_eq (tgt := 19) hx hb dXM_fresh_12 (by decide) (fun hc => ?_) (fun hc => ?_)
  · have hc : (decide (pz_ms x ≠ some (n0 / 4 % 5) ∨ (pz_mf x = true ∧ n0 / 4 < pz_mr x))) = false := pz_b0.mp hc
    have hT : decide (pz_ms x ≠ some (n0 / 4 % 5) ∨ (pz_mf x = true ∧ n0 / 4 < pz_mr x)) = false := hc
    refine lv_iconst (v := nI 0) hx hb dXM_fresh_19 (by decide) ?_
    refine lv_istore_n hx hb dXM_fresh_20 rfl hl (by decide) rfl (fun ls hl => ?_)
    have hl : lv_has ls 4 [(3, .int (nI 0)), (2, .int (nI (n0 / 4))), (0, .ref h0), (1, .int (nI n0))] := hl
    refine lv_aload_n hx hb dXM_fresh_21 rfl (lv_at hl 2 rfl) ?_
    refine va_get (D := (dC, dI)) (ci := 3) (v := .int (nI (pz_mw x))) (C := "ParityArrayModel") (T := TXM) (N := 9) hx hb hts (fun w h => List.mem_cons_of_mem _ (inXM w h)) hown hK hP 0 rfl rfl 6 (by decide) (hts _ (List.mem_cons_of_mem _ tw_397)) (fun _ h9 => h9) rfl dXM_fresh_22 ?_
    refine lv_iload_n hx hb dXM_fresh_25 rfl (lv_at hl 0 rfl) ?_
    refine lv_icmp_ge (tgt := 31) hx hb dXM_fresh_26 (by decide) (fun hc => ?_) (fun hc => ?_)
    · have hc : 0 ≤ (pz_mw x) := (nI_leI (a := 0) (b := (pz_mw x)) (by omega) (by omega)).mp hc
      have hw1 := hc
      refine lv_aload_n hx hb dXM_fresh_31 rfl (lv_at hl 2 rfl) ?_
      refine va_get (D := (dC, dI)) (ci := 3) (v := .int (nI (pz_mw x))) (C := "ParityArrayModel") (T := TXM) (N := 9) hx hb hts (fun w h => List.mem_cons_of_mem _ (inXM w h)) hown hK hP 0 rfl rfl 6 (by decide) (hts _ (List.mem_cons_of_mem _ tw_397)) (fun _ h9 => h9) rfl dXM_fresh_32 ?_
      refine lv_iload_n hx hb dXM_fresh_35 rfl (lv_at hl 0 rfl) ?_
      refine lv_icmp_le (tgt := 43) hx hb dXM_fresh_36 (by decide) (fun hc => ?_) (fun hc => ?_)
      · have hc : (pz_mw x) ≤ 0 := (nI_leI (a := (pz_mw x)) (b := 0) (by omega) (by omega)).mp hc
        have hw2 := hc
        refine lv_aload_n hx hb dXM_fresh_43 rfl (lv_at hl 2 rfl) ?_
        refine va_get (D := (dC, dI)) (ci := 3) (v := .int (nI (pz_mc x))) (C := "ParityArrayModel") (T := TXM) (N := 9) hx hb hts (fun w h => List.mem_cons_of_mem _ (inXM w h)) hown hK hP 0 rfl rfl 7 (by decide) (hts _ (List.mem_cons_of_mem _ tw_398)) (fun _ h9 => h9) rfl dXM_fresh_44 ?_
        refine lv_sipush (v := nI 128) hx hb dXM_fresh_47 (by decide) ?_
        refine lv_icmp_ge (tgt := 60) hx hb dXM_fresh_50 (by decide) (fun hc => ?_) (fun hc => ?_)
        · have hc : 128 ≤ (pz_mc x) := (nI_leI (a := 128) (b := (pz_mc x)) (by omega) (by omega)).mp hc
          refine lv_sipush (v := nI 128) hx hb dXM_fresh_60 (by decide) ?_
          exact W.iret (v := nI 128) hx hb hr (fun t ht hW => ⟨⟨_, (), rfl, by unfold pz_now pz_nw; rw [hT]; simp only [if_true, if_false, Bool.false_eq_true, reduceIte]; rw [if_neg (by omega), if_neg (by omega), Nat.min_eq_right (by omega)], trivial⟩, hS.F ht⟩) hS.2.2 dXM_fresh_63
        · have hc : ¬ 128 ≤ (pz_mc x) := fun h9 => hc ((nI_leI (a := 128) (b := (pz_mc x)) (by omega) (by omega)).mpr h9)
          refine lv_aload_n hx hb dXM_fresh_53 rfl (lv_at hl 2 rfl) ?_
          refine va_get (D := (dC, dI)) (ci := 3) (v := .int (nI (pz_mc x))) (C := "ParityArrayModel") (T := TXM) (N := 9) hx hb hts (fun w h => List.mem_cons_of_mem _ (inXM w h)) hown hK hP 0 rfl rfl 7 (by decide) (hts _ (List.mem_cons_of_mem _ tw_398)) (fun _ h9 => h9) rfl dXM_fresh_54 ?_
          refine lv_goto (tgt := 63) hx hb dXM_fresh_57 (by decide) ?_
          exact W.iret (v := nI (pz_mc x)) hx hb hr (fun t ht hW => ⟨⟨_, (), rfl, by unfold pz_now pz_nw; rw [hT]; simp only [if_true, if_false, Bool.false_eq_true, reduceIte]; rw [if_neg (by omega), if_neg (by omega), Nat.min_eq_left (by omega)], trivial⟩, hS.F ht⟩) hS.2.2 dXM_fresh_63
      · have hc : ¬ (pz_mw x) ≤ 0 := fun h9 => hc ((nI_leI (a := (pz_mw x)) (b := 0) (by omega) (by omega)).mpr h9)
        refine lv_sipush (v := nI 128) hx hb dXM_fresh_39 (by decide) ?_
        exact W.iret (v := nI 128) hx hb hr (fun t ht hW => ⟨⟨_, (), rfl, by unfold pz_now pz_nw; rw [hT]; simp only [if_true, if_false, Bool.false_eq_true, reduceIte]; rw [if_neg (by omega), if_pos (by omega)], trivial⟩, hS.F ht⟩) hS.2.2 dXM_fresh_42
    · have hc : ¬ 0 ≤ (pz_mw x) := fun h9 => hc ((nI_leI (a := 0) (b := (pz_mw x)) (by omega) (by omega)).mpr h9)
      refine lv_iconst (v := nI 0) hx hb dXM_fresh_29 (by decide) ?_
      exact W.iret (v := nI 0) hx hb hr (fun t ht hW => ⟨⟨_, (), rfl, by unfold pz_now pz_nw; rw [hT]; simp only [if_true, if_false, Bool.false_eq_true, reduceIte]; rw [if_pos (by omega)], trivial⟩, hS.F ht⟩) hS.2.2 dXM_fresh_30
  · have hc : (decide (pz_ms x ≠ some (n0 / 4 % 5) ∨ (pz_mf x = true ∧ n0 / 4 < pz_mr x))) = true := pz_bn hc
    have hT : decide (pz_ms x ≠ some (n0 / 4 % 5) ∨ (pz_mf x = true ∧ n0 / 4 < pz_mr x)) = true := hc
    refine lv_iconst (v := nI 1) hx hb dXM_fresh_15 (by decide) ?_
    refine lv_goto (tgt := 20) hx hb dXM_fresh_16 (by decide) ?_
    refine lv_istore_n hx hb dXM_fresh_20 rfl hl (by decide) rfl (fun ls hl => ?_)
    have hl : lv_has ls 4 [(3, .int (nI 1)), (2, .int (nI (n0 / 4))), (0, .ref h0), (1, .int (nI n0))] := hl
    refine lv_aload_n hx hb dXM_fresh_21 rfl (lv_at hl 2 rfl) ?_
    refine va_get (D := (dC, dI)) (ci := 3) (v := .int (nI (pz_mw x))) (C := "ParityArrayModel") (T := TXM) (N := 9) hx hb hts (fun w h => List.mem_cons_of_mem _ (inXM w h)) hown hK hP 0 rfl rfl 6 (by decide) (hts _ (List.mem_cons_of_mem _ tw_397)) (fun _ h9 => h9) rfl dXM_fresh_22 ?_
    refine lv_iload_n hx hb dXM_fresh_25 rfl (lv_at hl 0 rfl) ?_
    refine lv_icmp_ge (tgt := 31) hx hb dXM_fresh_26 (by decide) (fun hc => ?_) (fun hc => ?_)
    · have hc : 1 ≤ (pz_mw x) := (nI_leI (a := 1) (b := (pz_mw x)) (by omega) (by omega)).mp hc
      have hw1 := hc
      refine lv_aload_n hx hb dXM_fresh_31 rfl (lv_at hl 2 rfl) ?_
      refine va_get (D := (dC, dI)) (ci := 3) (v := .int (nI (pz_mw x))) (C := "ParityArrayModel") (T := TXM) (N := 9) hx hb hts (fun w h => List.mem_cons_of_mem _ (inXM w h)) hown hK hP 0 rfl rfl 6 (by decide) (hts _ (List.mem_cons_of_mem _ tw_397)) (fun _ h9 => h9) rfl dXM_fresh_32 ?_
      refine lv_iload_n hx hb dXM_fresh_35 rfl (lv_at hl 0 rfl) ?_
      refine lv_icmp_le (tgt := 43) hx hb dXM_fresh_36 (by decide) (fun hc => ?_) (fun hc => ?_)
      · have hc : (pz_mw x) ≤ 1 := (nI_leI (a := (pz_mw x)) (b := 1) (by omega) (by omega)).mp hc
        have hw2 := hc
        refine lv_aload_n hx hb dXM_fresh_43 rfl (lv_at hl 2 rfl) ?_
        refine va_get (D := (dC, dI)) (ci := 3) (v := .int (nI (pz_mc x))) (C := "ParityArrayModel") (T := TXM) (N := 9) hx hb hts (fun w h => List.mem_cons_of_mem _ (inXM w h)) hown hK hP 0 rfl rfl 7 (by decide) (hts _ (List.mem_cons_of_mem _ tw_398)) (fun _ h9 => h9) rfl dXM_fresh_44 ?_
        refine lv_sipush (v := nI 128) hx hb dXM_fresh_47 (by decide) ?_
        refine lv_icmp_ge (tgt := 60) hx hb dXM_fresh_50 (by decide) (fun hc => ?_) (fun hc => ?_)
        · have hc : 128 ≤ (pz_mc x) := (nI_leI (a := 128) (b := (pz_mc x)) (by omega) (by omega)).mp hc
          refine lv_sipush (v := nI 128) hx hb dXM_fresh_60 (by decide) ?_
          exact W.iret (v := nI 128) hx hb hr (fun t ht hW => ⟨⟨_, (), rfl, by unfold pz_now pz_nw; rw [hT]; simp only [if_true, if_false, Bool.false_eq_true, reduceIte]; rw [if_neg (by omega), if_neg (by omega), Nat.min_eq_right (by omega)], trivial⟩, hS.F ht⟩) hS.2.2 dXM_fresh_63
        · have hc : ¬ 128 ≤ (pz_mc x) := fun h9 => hc ((nI_leI (a := 128) (b := (pz_mc x)) (by omega) (by omega)).mpr h9)
          refine lv_aload_n hx hb dXM_fresh_53 rfl (lv_at hl 2 rfl) ?_
          refine va_get (D := (dC, dI)) (ci := 3) (v := .int (nI (pz_mc x))) (C := "ParityArrayModel") (T := TXM) (N := 9) hx hb hts (fun w h => List.mem_cons_of_mem _ (inXM w h)) hown hK hP 0 rfl rfl 7 (by decide) (hts _ (List.mem_cons_of_mem _ tw_398)) (fun _ h9 => h9) rfl dXM_fresh_54 ?_
          refine lv_goto (tgt := 63) hx hb dXM_fresh_57 (by decide) ?_
          exact W.iret (v := nI (pz_mc x)) hx hb hr (fun t ht hW => ⟨⟨_, (), rfl, by unfold pz_now pz_nw; rw [hT]; simp only [if_true, if_false, Bool.false_eq_true, reduceIte]; rw [if_neg (by omega), if_neg (by omega), Nat.min_eq_left (by omega)], trivial⟩, hS.F ht⟩) hS.2.2 dXM_fresh_63
      · have hc : ¬ (pz_mw x) ≤ 1 := fun h9 => hc ((nI_leI (a := (pz_mw x)) (b := 1) (by omega) (by omega)).mpr h9)
        refine lv_sipush (v := nI 128) hx hb dXM_fresh_39 (by decide) ?_
        exact W.iret (v := nI 128) hx hb hr (fun t ht hW => ⟨⟨_, (), rfl, by unfold pz_now pz_nw; rw [hT]; simp only [if_true, if_false, Bool.false_eq_true, reduceIte]; rw [if_neg (by omega), if_pos (by omega)], trivial⟩, hS.F ht⟩) hS.2.2 dXM_fresh_42
    · have hc : ¬ 1 ≤ (pz_mw x) := fun h9 => hc ((nI_leI (a := 1) (b := (pz_mw x)) (by omega) (by omega)).mpr h9)
      refine lv_iconst (v := nI 0) hx hb dXM_fresh_29 (by decide) ?_
      exact W.iret (v := nI 0) hx hb hr (fun t ht hW => ⟨⟨_, (), rfl, by unfold pz_now pz_nw; rw [hT]; simp only [if_true, if_false, Bool.false_eq_true, reduceIte]; rw [if_pos (by omega)], trivial⟩, hS.F ht⟩) hS.2.2 dXM_fresh_30

set_option maxHeartbeats 4000000 in
set_option maxRecDepth 100000 in
theorem c_XM_read (l : Launch) (dC : Nat → ClassId) (dI : Nat → Nat → Nat) (h0 aB : Nat) (cB : ClassId) (f : Nat → Int32) (x : pz_Mu) (th : Nat) (q0 : Nat) (hq0 : q0 < 9600) (hBy : pz_By f (pz_mM x)) : Met l yXM_read wsXM_read ({ frames := 0, cells := 0, slots := 0, locals := 0 }) (va_Pc [.ref h0, .int (nI (8 * q0))] (fun U => va_P (dC, dI) vwCl (pz_MW h0 aB cB f x th) U.heap ∧ va_K (dC, dI) vwCl [(cB, .byte)] U)) (va_Ql (fun (r : Int64) (u : Unit) => r = pz_mM x q0) (fun _ _ => True) (fun _ => False)) 0 0 (fun _ => False) := by
  refine Met.ofW (cc := cXM_read) (maxL := 5) (ret := (some .long)) (by decide) rfl ?_
  intro p e s m args below meth c s₁ B hml hv
  obtain ⟨rfl, hP, hK⟩ := hv
  have hx := B.exec
  have hb := B.bytes
  have hr := B.returns
  have hts := atoms_spec (ws := wsXM_read) B.pre
  have hown : s.vm.findClass "ParityArrayModel" = some m.cls := findClass_of_methodNamed B.named
  have hlocks := B.notSynchronized
  have hS : va_S (fun _ => False) s.heap s.heap [] := va_S.rf
  have hl := lv_entry ([.ref h0, .int (nI (8 * q0))]) (n := 5) (Nat.le_of_ble_eq_true rfl)
  rw [lg_entry_eq]
  generalize (lg_sl ([.ref h0, .int (nI (8 * q0))]) ++ List.replicate (5 - (lg_sl ([.ref h0, .int (nI (8 * q0))])).length) Slot.unset).toArray = ls at hl ⊢
  have hl : lv_has ls 5 [(0, .ref h0), (1, .int (nI (8 * q0)))] := hl
  have hP : va_P (dC, dI) vwCl [(h0, .inr (3, [.ref aB, .int (pz_b (pz_mo x)), .int (pz_o (pz_ms x)), .int (pz_b (pz_mf x)), .int (nI (pz_mr x)), .int (nI (pz_mF x)), .int (nI (pz_mw x)), .int (nI (pz_mc x)), .int (nI th)])), (aB, .inl (cB, 76800, .inl f))] s.heap := hP
  refine lv_lconst (v := 0) hx hb dXM_read_0 (by decide) ?_
  refine lv_lstore_n hx hb dXM_read_1 rfl hl (by decide) rfl (fun ls hl => ?_)
  have hl : lv_has ls 5 [(2, .long 0), (0, .ref h0), (1, .int (nI (8 * q0)))] := hl
  refine lv_iconst (v := nI 0) hx hb dXM_read_2 (by decide) ?_
  refine lv_istore hx hb dXM_read_3 hl (by decide) rfl (fun ls hl => ?_)
  have hl : lv_has ls 5 [(4, .int (nI 0)), (2, .long 0), (0, .ref h0), (1, .int (nI (8 * q0)))] := hl
  rw [← pz_pre_0 (pz_mM x q0)] at hl
  refine pz_loop (fun _ => 0) (fun _ => 0) 8 (fun k ls H locs => lv_has ls 5 [(4, .int (nI k)), (2, .long (pz_pre (pz_mM x q0) k)), (0, .ref h0), (1, .int (nI (8 * q0)))] ∧ va_P (dC, dI) vwCl [(h0, .inr (3, [.ref aB, .int (pz_b (pz_mo x)), .int (pz_o (pz_ms x)), .int (pz_b (pz_mf x)), .int (nI (pz_mr x)), .int (nI (pz_mF x)), .int (nI (pz_mw x)), .int (nI (pz_mc x)), .int (nI th)])), (aB, .inl (cB, 76800, .inl f))] H ∧ va_S (fun _ => False) s.heap H locs) ?_ ?_ 8 0 (by omega) _ _ _ ⟨hl, hP, hS⟩
  · intro k ls H locs hk hI ih
    obtain ⟨hl, hP, hS⟩ := hI
    refine lv_iload hx hb dXM_read_5 (lv_at hl 0 rfl) ?_
    refine lv_bipush (v := nI 8) hx hb dXM_read_7 (by decide) ?_
    refine lv_icmp_ge (tgt := 38) hx hb dXM_read_9 (by decide) (fun hc => absurd hc (nI_ge hk (by decide))) (fun _ => ?_)
    refine lv_lload_n hx hb dXM_read_12 rfl (lv_at hl 1 rfl) ?_
    refine lv_bipush (v := nI 8) hx hb dXM_read_13 (by decide) ?_
    refine lv_lshl (v := (pz_pre (pz_mM x q0) k) <<< ((nI 8).toInt64 &&& 63)) hx hb dXM_read_15 rfl ?_
    refine lv_aload_n hx hb dXM_read_16 rfl (lv_at hl 2 rfl) ?_
    refine va_get (D := (dC, dI)) (ci := 3) (v := .ref aB) (C := "ParityArrayModel") (T := TXM) (N := 9) hx hb hts (fun w h => List.mem_cons_of_mem _ (inXM w h)) hown hK hP 0 rfl rfl 0 (by decide) (hts _ (List.mem_cons_of_mem _ tw_391)) (fun _ h9 => h9) rfl dXM_read_17 ?_
    refine lv_iload_n hx hb dXM_read_20 rfl (lv_at hl 3 rfl) ?_
    refine lv_iload hx hb dXM_read_21 (lv_at hl 0 rfl) ?_
    refine lv_iadd hx hb dXM_read_23 ?_
    refine lv_topi (nm_r (nI_add (8 * q0) k) ?_)
    refine va_bald hx hb hK hP 1 0 rfl rfl (vp_in_nI (by omega) (by decide)) dXM_read_24 ?_
    refine lv_topi (nm_r (congrArg f (nI_clamp (by omega))) ?_)
    refine lv_topi (nm_r (hBy q0 k hq0 hk) ?_)
    refine lv_sipush (v := nI 255) hx hb dXM_read_25 (by decide) ?_
    refine lv_iand hx hb dXM_read_28 ?_
    refine lv_i2l (v := ((pz_by (pz_mM x q0) k) &&& 255).toInt64) hx hb dXM_read_29 rfl ?_
    refine lv_lor hx hb dXM_read_30 ?_
    refine lv_topl (nm_r (pz_rd (pz_mM x q0) hk) ?_)
    refine lv_lstore_n hx hb dXM_read_31 rfl hl (by decide) rfl (fun ls hl => ?_)
    have hl : lv_has ls 5 [(2, .long (pz_pre (pz_mM x q0) (k + 1))), (4, .int (nI k)), (0, .ref h0), (1, .int (nI (8 * q0)))] := hl
    refine lv_iinc (k := 1) (v := nI (k + 1)) hx hb dXM_read_32 hl rfl (by rw [nI_succ]; rfl) (by decide) rfl (fun ls hl => ?_)
    have hl : lv_has ls 5 [(4, .int (nI (k + 1))), (2, .long (pz_pre (pz_mM x q0) (k + 1))), (0, .ref h0), (1, .int (nI (8 * q0)))] := hl
    refine lv_goto (tgt := 5) hx hb dXM_read_35 (by decide) ?_
    exact ih _ _ _ ⟨hl, hP, hS⟩
  · intro ls H locs hI
    obtain ⟨hl, hP, hS⟩ := hI
    refine lv_iload hx hb dXM_read_5 (lv_at hl 0 rfl) ?_
    refine lv_bipush (v := nI 8) hx hb dXM_read_7 (by decide) ?_
    refine lv_icmp_ge (tgt := 38) hx hb dXM_read_9 (by decide) (fun _ => ?_) (fun hc => absurd hc (fun h9 => h9 (nI_le (Nat.le_refl 8) (by decide))))
    refine lv_lload_n hx hb dXM_read_38 rfl (lv_at hl 1 rfl) ?_
    exact W.lret (v := pz_pre (pz_mM x q0) 8) hx hb hr (fun t ht hW => ⟨⟨_, (), rfl, pz_pre_8 _, trivial⟩, hS.F ht⟩) hS.2.2 dXM_read_39

