/-! Disk: the writers (laid by a program) -/
def pz_DR (h0 aR aC : Nat) (cJ : ClassId) (x : pz_Dk) (aW : Nat) (row : Nat → Int64) : va_W := [(h0, .inr (0, [.ref aR, .ref aC, .int (pz_o (pz_rb x)), .int (pz_b (pz_dd x)), .int (nI (pz_th x))])), (aR, .inl (cJ, 2400, .inr (.inl (pz_R x)))), (aC, .inl (cJ, 16, .inr (.inl (pz_rc x)))), (aW, .inl (cJ, 16, .inr (.inl row)))]
set_option maxHeartbeats 4000000 in
set_option maxRecDepth 100000 in
/-- a record written -/
theorem c_XD_writeRecord (l : Launch) (dC : Nat → ClassId) (dI : Nat → Nat → Nat) (sz : Nat) (h0 aR aC : Nat) (cJ : ClassId) (x : pz_Dk) (aW : Nat) (row : Nat → Int64) (n0 b0 : Nat) (hn0 : n0 < 600) (hb0 : b0 ≤ 136) : Met l yXD_writeRecord wsXD_writeRecord ({ frames := 1, cells := 0, slots := 0, locals := 80 }) (va_Pc [.ref h0, .int (nI n0), .ref aW, .int (nI b0)] (fun U => U.heap.size = sz ∧ va_P (dC, dI) vwCl (pz_DR h0 aR aC cJ x aW row) U.heap ∧ va_K (dC, dI) vwCl [(cJ, .long)] U ∧ va_D (fun _ => True) (pz_DR h0 aR aC cJ x aW row))) (va_Qv (fun (u : pz_Dk) => u = pz_drec x n0 row b0) (fun u t => va_P (dC, dI) vwCl (pz_DR h0 aR aC cJ u aW row) t.heap ∧ va_K (dC, dI) vwCl [(cJ, .long)] t ∧ va_D (va_A (pz_DR h0 aR aC cJ x aW row) sz) (pz_DR h0 aR aC cJ u aW row)) (va_A (pz_DR h0 aR aC cJ x aW row) sz)) 0 0 (va_A (pz_DR h0 aR aC cJ x aW row) sz) := by
  refine Met.ofW (cc := cXD_writeRecord) (maxL := 4) (ret := none) (by decide) rfl ?_
  intro p e s m args below meth c s₁ B hml hv
  obtain ⟨rfl, hsz, hP, hK, hD0⟩ := hv
  have hx := B.exec
  have hb := B.bytes
  have hr := B.returns
  have hts := atoms_spec (ws := wsXD_writeRecord) B.pre
  have hown : s.vm.findClass "ParityArray$Disk" = some m.cls := findClass_of_methodNamed B.named
  have hlocks := B.notSynchronized
  subst hsz
  have hD := hD0.self (sz := s.heap.size)
  generalize hAe : va_A (pz_DR h0 aR aC cJ x aW row) s.heap.size = A at hD ⊢
  have hA : ∀ q : Nat, s.heap.size ≤ q → A q := fun q h => by rw [← hAe]; exact Or.inr h
  have hS : va_S A s.heap s.heap [] := va_S.rf
  have hl := lv_entry ([.ref h0, .int (nI n0), .ref aW, .int (nI b0)]) (n := 4) (Nat.le_of_ble_eq_true rfl)
  rw [lg_entry_eq]
  generalize (lg_sl ([.ref h0, .int (nI n0), .ref aW, .int (nI b0)]) ++ List.replicate (4 - (lg_sl ([.ref h0, .int (nI n0), .ref aW, .int (nI b0)])).length) Slot.unset).toArray = ls at hl ⊢
  have hl : lv_has ls 4 [(0, .ref h0), (1, .int (nI n0)), (2, .ref aW), (3, .int (nI b0))] := hl
  have hP : va_P (dC, dI) vwCl [(h0, .inr (0, [.ref aR, .ref aC, .int (pz_o (pz_rb x)), .int (pz_b (pz_dd x)), .int (nI (pz_th x))])), (aR, .inl (cJ, 2400, .inr (.inl (pz_R x)))), (aC, .inl (cJ, 16, .inr (.inl (pz_rc x)))), (aW, .inl (cJ, 16, .inr (.inl row)))] s.heap := hP
  have hD : va_D A [(h0, .inr (0, [.ref aR, .ref aC, .int (pz_o (pz_rb x)), .int (pz_b (pz_dd x)), .int (nI (pz_th x))])), (aR, .inl (cJ, 2400, .inr (.inl (pz_R x)))), (aC, .inl (cJ, 16, .inr (.inl (pz_rc x)))), (aW, .inl (cJ, 16, .inr (.inl row)))] := hD
  refine lv_iload_n hx hb dXD_writeRecord_0 rfl (lv_at hl 3 rfl) ?_
  refine lv_sipush (v := nI 136) hx hb dXD_writeRecord_1 (by decide) ?_
  refine lv_icmp_ge (tgt := 13) hx hb dXD_writeRecord_4 (by decide) (fun hc => ?_) (fun hc => ?_)
  · have hc : 136 ≤ b0 := (nI_leI (a := 136) (b := b0) (by omega) (by omega)).mp hc
    refine lv_aload_n hx hb dXD_writeRecord_13 rfl (lv_at hl 2 rfl) ?_
    refine lv_iconst (v := nI 0) hx hb dXD_writeRecord_14 (by decide) ?_
    refine lv_aload_n hx hb dXD_writeRecord_15 rfl (lv_at hl 0 rfl) ?_
    refine va_get (D := (dC, dI)) (ci := 0) (v := .ref aC) (C := "ParityArray$Disk") (T := TXD) (N := 5) hx hb hts (fun w h => List.mem_cons_of_mem _ (inXD w h)) hown hK hP 0 rfl rfl 1 (by decide) (hts _ (List.mem_cons_of_mem _ tw_60)) (fun _ h9 => h9) rfl dXD_writeRecord_16 ?_
    refine lv_iconst (v := nI 0) hx hb dXD_writeRecord_19 (by decide) ?_
    refine lv_bipush (v := nI 16) hx hb dXD_writeRecord_20 (by decide) ?_
    refine va_copyl hx hb (hml.trans hl.1.symm) hown (hts _ (List.mem_cons_of_mem _ tw_242)) (hts _ (List.mem_cons_of_mem _ tw_244)) (hts _ (List.mem_cons_of_mem _ tw_243)) (hts _ (List.mem_cons_of_mem _ tw_11)) hK hP hD hS 3 2 0 0 rfl rfl rfl rfl rfl (nI_pos (by omega)) (nI_pos (by omega)) (nI_pos (by omega)) (by rw [nI_clamp (show 0 < 2 ^ 31 by omega), nI_clamp (show 16 < 2 ^ 31 by omega)]; omega) (by rw [nI_clamp (show 0 < 2 ^ 31 by omega), nI_clamp (show 16 < 2 ^ 31 by omega)]; omega) (fun i _ => rfl) (Nat.le_of_ble_eq_true rfl) (Nat.le_of_ble_eq_true rfl) dXD_writeRecord_22 (fun H locs hP hD hS => ?_)
    rw [nI_clamp (show 0 < 2 ^ 31 by omega), nI_clamp (show 16 < 2 ^ 31 by omega)] at hP hD
    have hP : va_P (dC, dI) vwCl [(h0, .inr (0, [.ref aR, .ref aC, .int (pz_o (pz_rb x)), .int (pz_b (pz_dd x)), .int (nI (pz_th x))])), (aR, .inl (cJ, 2400, .inr (.inl (pz_R x)))), (aC, .inl (cJ, 16, .inr (.inl (va_cpy row (pz_rc x) 0 0 16)))), (aW, .inl (cJ, 16, .inr (.inl row)))] H := hP
    have hD : va_D A [(h0, .inr (0, [.ref aR, .ref aC, .int (pz_o (pz_rb x)), .int (pz_b (pz_dd x)), .int (nI (pz_th x))])), (aR, .inl (cJ, 2400, .inr (.inl (pz_R x)))), (aC, .inl (cJ, 16, .inr (.inl (va_cpy row (pz_rc x) 0 0 16)))), (aW, .inl (cJ, 16, .inr (.inl row)))] := hD
    refine lv_aload_n hx hb dXD_writeRecord_25 rfl (lv_at hl 0 rfl) ?_
    refine lv_iload_n hx hb dXD_writeRecord_26 rfl (lv_at hl 1 rfl) ?_
    refine va_put (D := (dC, dI)) (ci := 0) (v := .int (nI n0)) (ty := .int) (C := "ParityArray$Disk") (T := TXD) (N := 5) hx hb hts (fun w h => List.mem_cons_of_mem _ (inXD w h)) tyXD tyXD_ok nmXD hown hK hP hD hS 0 rfl rfl 2 (by decide) (hts _ (List.mem_cons_of_mem _ tw_62)) (fun _ h9 => h9) rfl (by decide +kernel) rfl rfl (Nat.le_of_ble_eq_true rfl) dXD_writeRecord_27 (fun H locs hP hD hS => ?_)
    have hP : va_P (dC, dI) vwCl [(h0, .inr (0, [.ref aR, .ref aC, .int (nI n0), .int (pz_b (pz_dd x)), .int (nI (pz_th x))])), (aR, .inl (cJ, 2400, .inr (.inl (pz_R x)))), (aC, .inl (cJ, 16, .inr (.inl (va_cpy row (pz_rc x) 0 0 16)))), (aW, .inl (cJ, 16, .inr (.inl row)))] H := hP
    have hD : va_D A [(h0, .inr (0, [.ref aR, .ref aC, .int (nI n0), .int (pz_b (pz_dd x)), .int (nI (pz_th x))])), (aR, .inl (cJ, 2400, .inr (.inl (pz_R x)))), (aC, .inl (cJ, 16, .inr (.inl (va_cpy row (pz_rc x) 0 0 16)))), (aW, .inl (cJ, 16, .inr (.inl row)))] := hD
    exact W.vret hx hb hr (fun t ht hW => ⟨⟨(pz_R x, va_cpy row (pz_rc x) 0 0 16, some n0, pz_dd x, pz_th x), rfl, by unfold pz_drec; rw [if_neg (by omega)], by rw [ht]; exact hP, va_K.moved hW.alike hK, hAe ▸ hD⟩, hS.F ht⟩) hS.2.2 dXD_writeRecord_30
  · have hc : ¬ 136 ≤ b0 := fun h9 => hc ((nI_leI (a := 136) (b := b0) (by omega) (by omega)).mpr h9)
    refine lv_aload_n hx hb dXD_writeRecord_7 rfl (lv_at hl 0 rfl) ?_
    refine lv_iconst (v := (-1)) hx hb dXD_writeRecord_8 (by decide) ?_
    refine va_put (D := (dC, dI)) (ci := 0) (v := .int (-1)) (ty := .int) (C := "ParityArray$Disk") (T := TXD) (N := 5) hx hb hts (fun w h => List.mem_cons_of_mem _ (inXD w h)) tyXD tyXD_ok nmXD hown hK hP hD hS 0 rfl rfl 2 (by decide) (hts _ (List.mem_cons_of_mem _ tw_62)) (fun _ h9 => h9) rfl (by decide +kernel) rfl rfl (Nat.le_of_ble_eq_true rfl) dXD_writeRecord_9 (fun H locs hP hD hS => ?_)
    have hP : va_P (dC, dI) vwCl [(h0, .inr (0, [.ref aR, .ref aC, .int (-1), .int (pz_b (pz_dd x)), .int (nI (pz_th x))])), (aR, .inl (cJ, 2400, .inr (.inl (pz_R x)))), (aC, .inl (cJ, 16, .inr (.inl (pz_rc x)))), (aW, .inl (cJ, 16, .inr (.inl row)))] H := hP
    have hD : va_D A [(h0, .inr (0, [.ref aR, .ref aC, .int (-1), .int (pz_b (pz_dd x)), .int (nI (pz_th x))])), (aR, .inl (cJ, 2400, .inr (.inl (pz_R x)))), (aC, .inl (cJ, 16, .inr (.inl (pz_rc x)))), (aW, .inl (cJ, 16, .inr (.inl row)))] := hD
    exact W.vret hx hb hr (fun t ht hW => ⟨⟨(pz_R x, pz_rc x, none, pz_dd x, pz_th x), rfl, by unfold pz_drec; rw [if_pos (by omega)], by rw [ht]; exact hP, va_K.moved hW.alike hK, hAe ▸ hD⟩, hS.F ht⟩) hS.2.2 dXD_writeRecord_12

set_option maxHeartbeats 4000000 in
set_option maxRecDepth 100000 in
/-- a row written up to byte b0 -/
theorem c_XD_writeRow (l : Launch) (dC : Nat → ClassId) (dI : Nat → Nat → Nat) (sz : Nat) (h0 aR aC : Nat) (cJ : ClassId) (x : pz_Dk) (aW : Nat) (row : Nat → Int64) (s0 b0 : Nat) (hs0 : s0 < 150) (hb0 : b0 ≤ 128) : Met l yXD_writeRow wsXD_writeRow ({ frames := 1, cells := 0, slots := 0, locals := 80 }) (va_Pc [.ref h0, .int (nI s0), .ref aW, .int (nI b0)] (fun U => U.heap.size = sz ∧ va_P (dC, dI) vwCl (pz_DR h0 aR aC cJ x aW row) U.heap ∧ va_K (dC, dI) vwCl [(cJ, .long)] U ∧ va_D (fun _ => True) (pz_DR h0 aR aC cJ x aW row))) (va_Qv (fun (u : pz_Dk) => u = pz_dwr x s0 row b0) (fun u t => va_P (dC, dI) vwCl (pz_DR h0 aR aC cJ u aW row) t.heap ∧ va_K (dC, dI) vwCl [(cJ, .long)] t ∧ va_D (va_A (pz_DR h0 aR aC cJ x aW row) sz) (pz_DR h0 aR aC cJ u aW row)) (va_A (pz_DR h0 aR aC cJ x aW row) sz)) 0 0 (va_A (pz_DR h0 aR aC cJ x aW row) sz) := by
  refine Met.ofW (cc := cXD_writeRow) (maxL := 9) (ret := none) (by decide) rfl ?_
  intro p e s m args below meth c s₁ B hml hv
  obtain ⟨rfl, hsz, hP, hK, hD0⟩ := hv
  have hx := B.exec
  have hb := B.bytes
  have hr := B.returns
  have hts := atoms_spec (ws := wsXD_writeRow) B.pre
  have hown : s.vm.findClass "ParityArray$Disk" = some m.cls := findClass_of_methodNamed B.named
  have hlocks := B.notSynchronized
  subst hsz
  have hD := hD0.self (sz := s.heap.size)
  generalize hAe : va_A (pz_DR h0 aR aC cJ x aW row) s.heap.size = A at hD ⊢
  have hA : ∀ q : Nat, s.heap.size ≤ q → A q := fun q h => by rw [← hAe]; exact Or.inr h
  have hS : va_S A s.heap s.heap [] := va_S.rf
  have hl := lv_entry ([.ref h0, .int (nI s0), .ref aW, .int (nI b0)]) (n := 9) (Nat.le_of_ble_eq_true rfl)
  rw [lg_entry_eq]
  generalize (lg_sl ([.ref h0, .int (nI s0), .ref aW, .int (nI b0)]) ++ List.replicate (9 - (lg_sl ([.ref h0, .int (nI s0), .ref aW, .int (nI b0)])).length) Slot.unset).toArray = ls at hl ⊢
  have hl : lv_has ls 9 [(0, .ref h0), (1, .int (nI s0)), (2, .ref aW), (3, .int (nI b0))] := hl
  have hP : va_P (dC, dI) vwCl [(h0, .inr (0, [.ref aR, .ref aC, .int (pz_o (pz_rb x)), .int (pz_b (pz_dd x)), .int (nI (pz_th x))])), (aR, .inl (cJ, 2400, .inr (.inl (pz_R x)))), (aC, .inl (cJ, 16, .inr (.inl (pz_rc x)))), (aW, .inl (cJ, 16, .inr (.inl row)))] s.heap := hP
  have hD : va_D A [(h0, .inr (0, [.ref aR, .ref aC, .int (pz_o (pz_rb x)), .int (pz_b (pz_dd x)), .int (nI (pz_th x))])), (aR, .inl (cJ, 2400, .inr (.inl (pz_R x)))), (aC, .inl (cJ, 16, .inr (.inl (pz_rc x)))), (aW, .inl (cJ, 16, .inr (.inl row)))] := hD
  refine lv_iload_n hx hb dXD_writeRow_0 rfl (lv_at hl 1 rfl) ?_
  refine lv_bipush (v := nI 16) hx hb dXD_writeRow_1 (by decide) ?_
  refine lv_imul hx hb dXD_writeRow_3 ?_
  refine lv_topi (nm_r (pk_mul s0 16) ?_)
  refine lv_istore hx hb dXD_writeRow_4 hl (by decide) rfl (fun ls hl => ?_)
  have hl : lv_has ls 9 [(4, .int (nI (s0 * 16))), (0, .ref h0), (1, .int (nI s0)), (2, .ref aW), (3, .int (nI b0))] := hl
  refine lv_iload_n hx hb dXD_writeRow_6 rfl (lv_at hl 4 rfl) ?_
  refine lv_bipush (v := nI 8) hx hb dXD_writeRow_7 (by decide) ?_
  refine lv_idiv hx hb dXD_writeRow_9 (by decide) ?_
  refine lv_topi (nm_r (pk_div (by omega) (by decide) (by decide)) ?_)
  refine lv_istore hx hb dXD_writeRow_10 hl (by decide) rfl (fun ls hl => ?_)
  have hl : lv_has ls 9 [(5, .int (nI (b0 / 8))), (4, .int (nI (s0 * 16))), (0, .ref h0), (1, .int (nI s0)), (2, .ref aW), (3, .int (nI b0))] := hl
  refine lv_iload_n hx hb dXD_writeRow_12 rfl (lv_at hl 5 rfl) ?_
  refine lv_bipush (v := nI 8) hx hb dXD_writeRow_13 (by decide) ?_
  refine lv_irem hx hb dXD_writeRow_15 (by decide) ?_
  refine lv_topi (nm_r (pk_rem (by omega) (by decide) (by decide)) ?_)
  refine lv_istore hx hb dXD_writeRow_16 hl (by decide) rfl (fun ls hl => ?_)
  have hl : lv_has ls 9 [(6, .int (nI (b0 % 8))), (5, .int (nI (b0 / 8))), (4, .int (nI (s0 * 16))), (0, .ref h0), (1, .int (nI s0)), (2, .ref aW), (3, .int (nI b0))] := hl
  refine lv_aload_n hx hb dXD_writeRow_18 rfl (lv_at hl 5 rfl) ?_
  refine lv_iconst (v := nI 0) hx hb dXD_writeRow_19 (by decide) ?_
  refine lv_aload_n hx hb dXD_writeRow_20 rfl (lv_at hl 3 rfl) ?_
  refine va_get (D := (dC, dI)) (ci := 0) (v := .ref aR) (C := "ParityArray$Disk") (T := TXD) (N := 5) hx hb hts (fun w h => List.mem_cons_of_mem _ (inXD w h)) hown hK hP 0 rfl rfl 0 (by decide) (hts _ (List.mem_cons_of_mem _ tw_59)) (fun _ h9 => h9) rfl dXD_writeRow_21 ?_
  refine lv_iload hx hb dXD_writeRow_24 (lv_at hl 2 rfl) ?_
  refine lv_iload hx hb dXD_writeRow_26 (lv_at hl 1 rfl) ?_
  refine va_copyl hx hb (hml.trans hl.1.symm) hown (hts _ (List.mem_cons_of_mem _ tw_242)) (hts _ (List.mem_cons_of_mem _ tw_244)) (hts _ (List.mem_cons_of_mem _ tw_243)) (hts _ (List.mem_cons_of_mem _ tw_11)) hK hP hD hS 3 1 0 0 rfl rfl rfl rfl rfl (nI_pos (by omega)) (nI_pos (by omega)) (nI_pos (by omega)) (by rw [nI_clamp (show 0 < 2 ^ 31 by omega), nI_clamp (show b0 / 8 < 2 ^ 31 by omega)]; omega) (by rw [nI_clamp (show s0 * 16 < 2 ^ 31 by omega), nI_clamp (show b0 / 8 < 2 ^ 31 by omega)]; omega) (fun i _ => rfl) (Nat.le_of_ble_eq_true rfl) (Nat.le_of_ble_eq_true rfl) dXD_writeRow_28 (fun H locs hP hD hS => ?_)
  rw [nI_clamp (show 0 < 2 ^ 31 by omega), nI_clamp (show s0 * 16 < 2 ^ 31 by omega), nI_clamp (show b0 / 8 < 2 ^ 31 by omega)] at hP hD
  have hP : va_P (dC, dI) vwCl [(h0, .inr (0, [.ref aR, .ref aC, .int (pz_o (pz_rb x)), .int (pz_b (pz_dd x)), .int (nI (pz_th x))])), (aR, .inl (cJ, 2400, .inr (.inl (va_cpy row (pz_R x) 0 (s0 * 16) (b0 / 8))))), (aC, .inl (cJ, 16, .inr (.inl (pz_rc x)))), (aW, .inl (cJ, 16, .inr (.inl row)))] H := hP
  have hD : va_D A [(h0, .inr (0, [.ref aR, .ref aC, .int (pz_o (pz_rb x)), .int (pz_b (pz_dd x)), .int (nI (pz_th x))])), (aR, .inl (cJ, 2400, .inr (.inl (va_cpy row (pz_R x) 0 (s0 * 16) (b0 / 8))))), (aC, .inl (cJ, 16, .inr (.inl (pz_rc x)))), (aW, .inl (cJ, 16, .inr (.inl row)))] := hD
  refine lv_iload hx hb dXD_writeRow_31 (lv_at hl 0 rfl) ?_
  refine lv_if_le (tgt := 82) hx hb dXD_writeRow_33 (by decide) (fun hc => ?_) (fun hc => ?_)
  · have hc : (b0 % 8) ≤ 0 := (nI_leI (a := (b0 % 8)) (b := 0) (by omega) (by omega)).mp hc
    rw [pz_wr_eq0 hb0 (by omega)] at hP hD
    exact W.vret hx hb hr (fun t ht hW => ⟨⟨(pz_wr (pz_R x) s0 row b0, x.2), rfl, rfl, by rw [ht]; exact hP, va_K.moved hW.alike hK, hAe ▸ hD⟩, hS.F ht⟩) hS.2.2 dXD_writeRow_82
  · have hc : ¬ (b0 % 8) ≤ 0 := fun h9 => hc ((nI_leI (a := (b0 % 8)) (b := 0) (by omega) (by omega)).mpr h9)
    refine lv_ldc2 hx hb hown (hts _ (List.mem_cons_of_mem _ tw_249)) dXD_writeRow_36 ?_
    refine lv_iload hx hb dXD_writeRow_39 (lv_at hl 0 rfl) ?_
    refine lv_bipush (v := nI 8) hx hb dXD_writeRow_41 (by decide) ?_
    refine lv_imul hx hb dXD_writeRow_43 ?_
    refine lv_topi (nm_r (pk_mul (b0 % 8) 8) ?_)
    refine lv_lushr (v := pz_mask (b0 % 8)) hx hb dXD_writeRow_44 (pz_mask_m (b0 % 8) (by omega)) ?_
    refine lv_lstore hx hb dXD_writeRow_45 hl (by decide) rfl (fun ls hl => ?_)
    have hl : lv_has ls 9 [(7, .long (pz_mask (b0 % 8))), (6, .int (nI (b0 % 8))), (5, .int (nI (b0 / 8))), (4, .int (nI (s0 * 16))), (0, .ref h0), (1, .int (nI s0)), (2, .ref aW), (3, .int (nI b0))] := hl
    refine lv_aload_n hx hb dXD_writeRow_47 rfl (lv_at hl 4 rfl) ?_
    refine va_get (D := (dC, dI)) (ci := 0) (v := .ref aR) (C := "ParityArray$Disk") (T := TXD) (N := 5) hx hb hts (fun w h => List.mem_cons_of_mem _ (inXD w h)) hown hK hP 0 rfl rfl 0 (by decide) (hts _ (List.mem_cons_of_mem _ tw_59)) (fun _ h9 => h9) rfl dXD_writeRow_48 ?_
    refine lv_iload hx hb dXD_writeRow_51 (lv_at hl 3 rfl) ?_
    refine lv_iload hx hb dXD_writeRow_53 (lv_at hl 2 rfl) ?_
    refine lv_iadd hx hb dXD_writeRow_55 ?_
    refine lv_topi (nm_r (nI_add (s0 * 16) (b0 / 8)) ?_)
    refine lv_aload_n hx hb dXD_writeRow_56 rfl (lv_at hl 6 rfl) ?_
    refine lv_iload hx hb dXD_writeRow_57 (lv_at hl 2 rfl) ?_
    refine va_lald hx hb hK hP 3 0 rfl rfl (vp_in_nI (by omega) (by decide)) dXD_writeRow_59 ?_
    refine lv_topl (nm_r (congrArg row (nI_clamp (by omega))) ?_)
    refine lv_lload hx hb dXD_writeRow_60 (lv_at hl 0 rfl) ?_
    refine lv_ldc2 hx hb hown (hts _ (List.mem_cons_of_mem _ tw_249)) dXD_writeRow_62 ?_
    refine lv_lxor hx hb dXD_writeRow_65 ?_
    refine lv_land hx hb dXD_writeRow_66 ?_
    refine lv_aload_n hx hb dXD_writeRow_67 rfl (lv_at hl 4 rfl) ?_
    refine va_get (D := (dC, dI)) (ci := 0) (v := .ref aR) (C := "ParityArray$Disk") (T := TXD) (N := 5) hx hb hts (fun w h => List.mem_cons_of_mem _ (inXD w h)) hown hK hP 0 rfl rfl 0 (by decide) (hts _ (List.mem_cons_of_mem _ tw_59)) (fun _ h9 => h9) rfl dXD_writeRow_68 ?_
    refine lv_iload hx hb dXD_writeRow_71 (lv_at hl 3 rfl) ?_
    refine lv_iload hx hb dXD_writeRow_73 (lv_at hl 2 rfl) ?_
    refine lv_iadd hx hb dXD_writeRow_75 ?_
    refine lv_topi (nm_r (nI_add (s0 * 16) (b0 / 8)) ?_)
    refine va_lald hx hb hK hP 1 0 rfl rfl (vp_in_nI (by omega) (by decide)) dXD_writeRow_76 ?_
    refine lv_topl (nm_r (congrArg (va_cpy row (pz_R x) 0 (s0 * 16) (b0 / 8)) (nI_clamp (by omega))) ?_)
    refine lv_lload hx hb dXD_writeRow_77 (lv_at hl 0 rfl) ?_
    refine lv_land hx hb dXD_writeRow_79 ?_
    refine lv_lor hx hb dXD_writeRow_80 ?_
    refine va_last hx hb hK hP hD hS 1 0 rfl rfl (vp_in_nI (by omega) (by decide)) dXD_writeRow_81 (fun H locs hP hD hS => ?_)
    rw [nI_clamp (show (s0 * 16) + (b0 / 8) < 2 ^ 31 by omega)] at hP hD
    have hP : va_P (dC, dI) vwCl [(h0, .inr (0, [.ref aR, .ref aC, .int (pz_o (pz_rb x)), .int (pz_b (pz_dd x)), .int (nI (pz_th x))])), (aR, .inl (cJ, 2400, .inr (.inl (vp_updL (va_cpy row (pz_R x) 0 (s0 * 16) (b0 / 8)) ((s0 * 16) + (b0 / 8)) (((row (b0 / 8)) &&& ((pz_mask (b0 % 8)) ^^^ (-1))) ||| (((va_cpy row (pz_R x) 0 (s0 * 16) (b0 / 8)) ((s0 * 16) + (b0 / 8))) &&& (pz_mask (b0 % 8)))))))), (aC, .inl (cJ, 16, .inr (.inl (pz_rc x)))), (aW, .inl (cJ, 16, .inr (.inl row)))] H := hP
    have hD : va_D A [(h0, .inr (0, [.ref aR, .ref aC, .int (pz_o (pz_rb x)), .int (pz_b (pz_dd x)), .int (nI (pz_th x))])), (aR, .inl (cJ, 2400, .inr (.inl (vp_updL (va_cpy row (pz_R x) 0 (s0 * 16) (b0 / 8)) ((s0 * 16) + (b0 / 8)) (((row (b0 / 8)) &&& ((pz_mask (b0 % 8)) ^^^ (-1))) ||| (((va_cpy row (pz_R x) 0 (s0 * 16) (b0 / 8)) ((s0 * 16) + (b0 / 8))) &&& (pz_mask (b0 % 8)))))))), (aC, .inl (cJ, 16, .inr (.inl (pz_rc x)))), (aW, .inl (cJ, 16, .inr (.inl row)))] := hD
    rw [pz_wr_eq1 hb0 (by omega)] at hP hD
    exact W.vret hx hb hr (fun t ht hW => ⟨⟨(pz_wr (pz_R x) s0 row b0, x.2), rfl, rfl, by rw [ht]; exact hP, va_K.moved hW.alike hK, hAe ▸ hD⟩, hS.F ht⟩) hS.2.2 dXD_writeRow_82

