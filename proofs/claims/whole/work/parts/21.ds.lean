/-! Disk and Supply: worlds and contracts (laid by a program) -/
def pz_DW (h0 aR aC : Nat) (cJ : ClassId) (x : pz_Dk) : va_W := [(h0, .inr (0, [.ref aR, .ref aC, .int (pz_o (pz_rb x)), .int (pz_b (pz_dd x)), .int (nI (pz_th x))])), (aR, .inl (cJ, 2400, .inr (.inl (pz_R x)))), (aC, .inl (cJ, 16, .inr (.inl (pz_rc x))))]
def pz_SW (h0 : Nat) (x : pz_Su) : va_W := [(h0, .inr (1, [.int (pz_b (pz_on x)), .int (pz_b (pz_pl x)), .int (pz_b (pz_pr x)), .int (nI (pz_cw x)), .int (nI (pz_cb x)), .int (pz_b (pz_fa x)), .int (nI (pz_wc x))]))]
set_option maxHeartbeats 4000000 in
set_option maxRecDepth 100000 in
/-- is it WELL -/
theorem c_XD_isWell (l : Launch) (dC : Nat → ClassId) (dI : Nat → Nat → Nat) (h0 aR aC : Nat) (cJ : ClassId) (x : pz_Dk) (ht : pz_th x ≤ 150) : Met l yXD_isWell wsXD_isWell ({ frames := 0, cells := 0, slots := 0, locals := 0 }) (va_Pc [.ref h0] (fun U => va_P (dC, dI) vwCl (pz_DW h0 aR aC cJ x) U.heap ∧ va_K (dC, dI) vwCl [(cJ, .long)] U)) (va_Qi (fun (r : Int32) (u : Unit) => r = pz_b (decide (pz_th x = 150))) (fun _ _ => True) (fun _ => False)) 0 0 (fun _ => False) := by
  refine Met.ofW (cc := cXD_isWell) (maxL := 1) (ret := (some .boolean)) (by decide) rfl ?_
  intro p e s m args below meth c s₁ B hml hv
  obtain ⟨rfl, hP, hK⟩ := hv
  have hx := B.exec
  have hb := B.bytes
  have hr := B.returns
  have hts := atoms_spec (ws := wsXD_isWell) B.pre
  have hown : s.vm.findClass "ParityArray$Disk" = some m.cls := findClass_of_methodNamed B.named
  have hlocks := B.notSynchronized
  have hS : va_S (fun _ => False) s.heap s.heap [] := va_S.rf
  have hl := lv_entry ([.ref h0]) (n := 1) (Nat.le_of_ble_eq_true rfl)
  rw [lg_entry_eq]
  generalize (lg_sl ([.ref h0]) ++ List.replicate (1 - (lg_sl ([.ref h0])).length) Slot.unset).toArray = ls at hl ⊢
  have hl : lv_has ls 1 [(0, .ref h0)] := hl
  have hP : va_P (dC, dI) vwCl [(h0, .inr (0, [.ref aR, .ref aC, .int (pz_o (pz_rb x)), .int (pz_b (pz_dd x)), .int (nI (pz_th x))])), (aR, .inl (cJ, 2400, .inr (.inl (pz_R x)))), (aC, .inl (cJ, 16, .inr (.inl (pz_rc x))))] s.heap := hP
  refine lv_aload_n hx hb dXD_isWell_0 rfl (lv_at hl 0 rfl) ?_
  refine va_get (D := (dC, dI)) (ci := 0) (v := .int (nI (pz_th x))) (C := "ParityArray$Disk") (T := TXD) (N := 5) hx hb hts (fun w h => List.mem_cons_of_mem _ (inXD w h)) hown hK hP 0 rfl rfl 4 (by decide) (hts _ (List.mem_cons_of_mem _ tw_66)) (fun _ h9 => h9) rfl dXD_isWell_1 ?_
  refine lv_sipush (v := nI 150) hx hb dXD_isWell_4 (by decide) ?_
  refine lv_icmp_ne (tgt := 14) hx hb dXD_isWell_7 (by decide) (fun hc => ?_) (fun hc => ?_)
  · have hc : ¬ (pz_th x) = 150 := fun h9 => hc ((nI_eq (a := (pz_th x)) (b := 150) (by omega) (by omega)).mpr h9)
    refine lv_iconst (v := nI 0) hx hb dXD_isWell_14 (by decide) ?_
    exact W.zret (v := nI 0) hx hb hr rfl (fun t ht hW => ⟨⟨_, (), rfl, by rw [decide_eq_false hc]; rfl, trivial⟩, hS.F ht⟩) hS.2.2 dXD_isWell_15
  · have hc : (pz_th x) = 150 := (nI_eq (a := (pz_th x)) (b := 150) (by omega) (by omega)).mp hc
    refine lv_iconst (v := nI 1) hx hb dXD_isWell_10 (by decide) ?_
    refine lv_goto (tgt := 15) hx hb dXD_isWell_11 (by decide) ?_
    exact W.zret (v := nI 1) hx hb hr rfl (fun t ht hW => ⟨⟨_, (), rfl, by rw [decide_eq_true hc]; rfl, trivial⟩, hS.F ht⟩) hS.2.2 dXD_isWell_15

set_option maxHeartbeats 4000000 in
set_option maxRecDepth 100000 in
/-- is stripe s0 THERE -/
theorem c_XD_isThere (l : Launch) (dC : Nat → ClassId) (dI : Nat → Nat → Nat) (h0 aR aC : Nat) (cJ : ClassId) (x : pz_Dk) (s0 : Nat) (ht : pz_th x ≤ 150) (hs0 : s0 < 150) : Met l yXD_isThere wsXD_isThere ({ frames := 0, cells := 0, slots := 0, locals := 0 }) (va_Pc [.ref h0, .int (nI s0)] (fun U => va_P (dC, dI) vwCl (pz_DW h0 aR aC cJ x) U.heap ∧ va_K (dC, dI) vwCl [(cJ, .long)] U)) (va_Qi (fun (r : Int32) (u : Unit) => r = pz_b (decide (s0 < pz_th x))) (fun _ _ => True) (fun _ => False)) 0 0 (fun _ => False) := by
  refine Met.ofW (cc := cXD_isThere) (maxL := 2) (ret := (some .boolean)) (by decide) rfl ?_
  intro p e s m args below meth c s₁ B hml hv
  obtain ⟨rfl, hP, hK⟩ := hv
  have hx := B.exec
  have hb := B.bytes
  have hr := B.returns
  have hts := atoms_spec (ws := wsXD_isThere) B.pre
  have hown : s.vm.findClass "ParityArray$Disk" = some m.cls := findClass_of_methodNamed B.named
  have hlocks := B.notSynchronized
  have hS : va_S (fun _ => False) s.heap s.heap [] := va_S.rf
  have hl := lv_entry ([.ref h0, .int (nI s0)]) (n := 2) (Nat.le_of_ble_eq_true rfl)
  rw [lg_entry_eq]
  generalize (lg_sl ([.ref h0, .int (nI s0)]) ++ List.replicate (2 - (lg_sl ([.ref h0, .int (nI s0)])).length) Slot.unset).toArray = ls at hl ⊢
  have hl : lv_has ls 2 [(0, .ref h0), (1, .int (nI s0))] := hl
  have hP : va_P (dC, dI) vwCl [(h0, .inr (0, [.ref aR, .ref aC, .int (pz_o (pz_rb x)), .int (pz_b (pz_dd x)), .int (nI (pz_th x))])), (aR, .inl (cJ, 2400, .inr (.inl (pz_R x)))), (aC, .inl (cJ, 16, .inr (.inl (pz_rc x))))] s.heap := hP
  refine lv_iload_n hx hb dXD_isThere_0 rfl (lv_at hl 1 rfl) ?_
  refine lv_aload_n hx hb dXD_isThere_1 rfl (lv_at hl 0 rfl) ?_
  refine va_get (D := (dC, dI)) (ci := 0) (v := .int (nI (pz_th x))) (C := "ParityArray$Disk") (T := TXD) (N := 5) hx hb hts (fun w h => List.mem_cons_of_mem _ (inXD w h)) hown hK hP 0 rfl rfl 4 (by decide) (hts _ (List.mem_cons_of_mem _ tw_66)) (fun _ h9 => h9) rfl dXD_isThere_2 ?_
  refine lv_icmp_ge (tgt := 12) hx hb dXD_isThere_5 (by decide) (fun hc => ?_) (fun hc => ?_)
  · have hc : (pz_th x) ≤ s0 := (nI_leI (a := (pz_th x)) (b := s0) (by omega) (by omega)).mp hc
    refine lv_iconst (v := nI 0) hx hb dXD_isThere_12 (by decide) ?_
    exact W.zret (v := nI 0) hx hb hr rfl (fun t ht hW => ⟨⟨_, (), rfl, by rw [decide_eq_false (by omega)]; rfl, trivial⟩, hS.F ht⟩) hS.2.2 dXD_isThere_13
  · have hc : ¬ (pz_th x) ≤ s0 := fun h9 => hc ((nI_leI (a := (pz_th x)) (b := s0) (by omega) (by omega)).mpr h9)
    refine lv_iconst (v := nI 1) hx hb dXD_isThere_8 (by decide) ?_
    refine lv_goto (tgt := 13) hx hb dXD_isThere_9 (by decide) ?_
    exact W.zret (v := nI 1) hx hb hr rfl (fun t ht hW => ⟨⟨_, (), rfl, by rw [decide_eq_true (by omega)]; rfl, trivial⟩, hS.F ht⟩) hS.2.2 dXD_isThere_13

set_option maxHeartbeats 4000000 in
set_option maxRecDepth 100000 in
/-- long i0 of stripe s0 -/
theorem c_XD_longAt (l : Launch) (dC : Nat → ClassId) (dI : Nat → Nat → Nat) (h0 aR aC : Nat) (cJ : ClassId) (x : pz_Dk) (s0 i0 : Nat) (hs0 : s0 < 150) (hi0 : i0 < 16) : Met l yXD_longAt wsXD_longAt ({ frames := 0, cells := 0, slots := 0, locals := 0 }) (va_Pc [.ref h0, .int (nI s0), .int (nI i0)] (fun U => va_P (dC, dI) vwCl (pz_DW h0 aR aC cJ x) U.heap ∧ va_K (dC, dI) vwCl [(cJ, .long)] U)) (va_Ql (fun (r : Int64) (u : Unit) => r = pz_R x (16 * s0 + i0)) (fun _ _ => True) (fun _ => False)) 0 0 (fun _ => False) := by
  refine Met.ofW (cc := cXD_longAt) (maxL := 3) (ret := (some .long)) (by decide) rfl ?_
  intro p e s m args below meth c s₁ B hml hv
  obtain ⟨rfl, hP, hK⟩ := hv
  have hx := B.exec
  have hb := B.bytes
  have hr := B.returns
  have hts := atoms_spec (ws := wsXD_longAt) B.pre
  have hown : s.vm.findClass "ParityArray$Disk" = some m.cls := findClass_of_methodNamed B.named
  have hlocks := B.notSynchronized
  have hS : va_S (fun _ => False) s.heap s.heap [] := va_S.rf
  have hl := lv_entry ([.ref h0, .int (nI s0), .int (nI i0)]) (n := 3) (Nat.le_of_ble_eq_true rfl)
  rw [lg_entry_eq]
  generalize (lg_sl ([.ref h0, .int (nI s0), .int (nI i0)]) ++ List.replicate (3 - (lg_sl ([.ref h0, .int (nI s0), .int (nI i0)])).length) Slot.unset).toArray = ls at hl ⊢
  have hl : lv_has ls 3 [(0, .ref h0), (1, .int (nI s0)), (2, .int (nI i0))] := hl
  have hP : va_P (dC, dI) vwCl [(h0, .inr (0, [.ref aR, .ref aC, .int (pz_o (pz_rb x)), .int (pz_b (pz_dd x)), .int (nI (pz_th x))])), (aR, .inl (cJ, 2400, .inr (.inl (pz_R x)))), (aC, .inl (cJ, 16, .inr (.inl (pz_rc x))))] s.heap := hP
  refine lv_aload_n hx hb dXD_longAt_0 rfl (lv_at hl 0 rfl) ?_
  refine va_get (D := (dC, dI)) (ci := 0) (v := .ref aR) (C := "ParityArray$Disk") (T := TXD) (N := 5) hx hb hts (fun w h => List.mem_cons_of_mem _ (inXD w h)) hown hK hP 0 rfl rfl 0 (by decide) (hts _ (List.mem_cons_of_mem _ tw_59)) (fun _ h9 => h9) rfl dXD_longAt_1 ?_
  refine lv_iload_n hx hb dXD_longAt_4 rfl (lv_at hl 1 rfl) ?_
  refine lv_bipush (v := nI 16) hx hb dXD_longAt_5 (by decide) ?_
  refine lv_imul hx hb dXD_longAt_7 ?_
  refine lv_topi (nm_r (pk_mul s0 16) ?_)
  refine lv_iload_n hx hb dXD_longAt_8 rfl (lv_at hl 2 rfl) ?_
  refine lv_iadd hx hb dXD_longAt_9 ?_
  refine lv_topi (nm_r (nI_add (s0 * 16) i0) ?_)
  refine va_lald hx hb hK hP 1 0 rfl rfl (vp_in_nI (by omega) (by decide)) dXD_longAt_10 ?_
  refine lv_topl (nm_r (congrArg (pz_R x) (nI_clamp (by omega))) ?_)
  exact W.lret (v := (pz_R x) ((s0 * 16) + i0)) hx hb hr (fun t ht hW => ⟨⟨_, (), rfl, congrArg (pz_R x) (by omega), trivial⟩, hS.F ht⟩) hS.2.2 dXD_longAt_11

set_option maxHeartbeats 4000000 in
set_option maxRecDepth 100000 in
/-- a plan -/
theorem c_XS_plan (l : Launch) (dC : Nat → ClassId) (dI : Nat → Nat → Nat) (sz : Nat) (h0 : Nat) (x : pz_Su) (k0 b0 : Nat) (r0 : Bool) : Met l yXS_plan wsXS_plan ({ frames := 0, cells := 0, slots := 0, locals := 0 }) (va_Pc [.ref h0, .int (nI k0), .int (nI b0), .int (pz_b r0)] (fun U => U.heap.size = sz ∧ va_P (dC, dI) vwCl (pz_SW h0 x) U.heap ∧ va_K (dC, dI) vwCl [] U ∧ va_D (fun _ => True) (pz_SW h0 x))) (va_Qv (fun (u : pz_Su) => u = (pz_on x, true, r0, k0, b0, pz_fa x, pz_wc x)) (fun u t => va_P (dC, dI) vwCl (pz_SW h0 u) t.heap ∧ va_K (dC, dI) vwCl [] t ∧ va_D (va_A (pz_SW h0 x) sz) (pz_SW h0 u)) (va_A (pz_SW h0 x) sz)) 0 0 (va_A (pz_SW h0 x) sz) := by
  refine Met.ofW (cc := cXS_plan) (maxL := 4) (ret := none) (by decide) rfl ?_
  intro p e s m args below meth c s₁ B hml hv
  obtain ⟨rfl, hsz, hP, hK, hD0⟩ := hv
  have hx := B.exec
  have hb := B.bytes
  have hr := B.returns
  have hts := atoms_spec (ws := wsXS_plan) B.pre
  have hown : s.vm.findClass "ParityArray$Supply" = some m.cls := findClass_of_methodNamed B.named
  have hlocks := B.notSynchronized
  subst hsz
  have hD := hD0.self (sz := s.heap.size)
  generalize hAe : va_A (pz_SW h0 x) s.heap.size = A at hD ⊢
  have hA : ∀ q : Nat, s.heap.size ≤ q → A q := fun q h => by rw [← hAe]; exact Or.inr h
  have hS : va_S A s.heap s.heap [] := va_S.rf
  have hl := lv_entry ([.ref h0, .int (nI k0), .int (nI b0), .int (pz_b r0)]) (n := 4) (Nat.le_of_ble_eq_true rfl)
  rw [lg_entry_eq]
  generalize (lg_sl ([.ref h0, .int (nI k0), .int (nI b0), .int (pz_b r0)]) ++ List.replicate (4 - (lg_sl ([.ref h0, .int (nI k0), .int (nI b0), .int (pz_b r0)])).length) Slot.unset).toArray = ls at hl ⊢
  have hl : lv_has ls 4 [(0, .ref h0), (1, .int (nI k0)), (2, .int (nI b0)), (3, .int (pz_b r0))] := hl
  have hP : va_P (dC, dI) vwCl [(h0, .inr (1, [.int (pz_b (pz_on x)), .int (pz_b (pz_pl x)), .int (pz_b (pz_pr x)), .int (nI (pz_cw x)), .int (nI (pz_cb x)), .int (pz_b (pz_fa x)), .int (nI (pz_wc x))]))] s.heap := hP
  have hD : va_D A [(h0, .inr (1, [.int (pz_b (pz_on x)), .int (pz_b (pz_pl x)), .int (pz_b (pz_pr x)), .int (nI (pz_cw x)), .int (nI (pz_cb x)), .int (pz_b (pz_fa x)), .int (nI (pz_wc x))]))] := hD
  refine lv_aload_n hx hb dXS_plan_0 rfl (lv_at hl 0 rfl) ?_
  refine lv_iconst (v := nI 1) hx hb dXS_plan_1 (by decide) ?_
  refine va_put (D := (dC, dI)) (ci := 1) (v := .int (nI 1)) (ty := .boolean) (C := "ParityArray$Supply") (T := TXS) (N := 7) hx hb hts (fun w h => List.mem_cons_of_mem _ (inXS w h)) tyXS tyXS_ok nmXS hown hK hP hD hS 0 rfl rfl 1 (by decide) (hts _ (List.mem_cons_of_mem _ tw_33)) (fun _ h9 => h9) rfl (by decide +kernel) rfl rfl (Nat.le_of_ble_eq_true rfl) dXS_plan_2 (fun H locs hP hD hS => ?_)
  have hP : va_P (dC, dI) vwCl [(h0, .inr (1, [.int (pz_b (pz_on x)), .int (pz_b true), .int (pz_b (pz_pr x)), .int (nI (pz_cw x)), .int (nI (pz_cb x)), .int (pz_b (pz_fa x)), .int (nI (pz_wc x))]))] H := hP
  have hD : va_D A [(h0, .inr (1, [.int (pz_b (pz_on x)), .int (pz_b true), .int (pz_b (pz_pr x)), .int (nI (pz_cw x)), .int (nI (pz_cb x)), .int (pz_b (pz_fa x)), .int (nI (pz_wc x))]))] := hD
  refine lv_aload_n hx hb dXS_plan_5 rfl (lv_at hl 0 rfl) ?_
  refine lv_iload_n hx hb dXS_plan_6 rfl (lv_at hl 3 rfl) ?_
  refine va_put (D := (dC, dI)) (ci := 1) (v := .int (pz_b r0)) (ty := .boolean) (C := "ParityArray$Supply") (T := TXS) (N := 7) hx hb hts (fun w h => List.mem_cons_of_mem _ (inXS w h)) tyXS tyXS_ok nmXS hown hK hP hD hS 0 rfl rfl 2 (by decide) (hts _ (List.mem_cons_of_mem _ tw_34)) (fun _ h9 => h9) rfl (by decide +kernel) (pz_nar _) (pz_fit _) (Nat.le_of_ble_eq_true rfl) dXS_plan_7 (fun H locs hP hD hS => ?_)
  have hP : va_P (dC, dI) vwCl [(h0, .inr (1, [.int (pz_b (pz_on x)), .int (pz_b true), .int (pz_b r0), .int (nI (pz_cw x)), .int (nI (pz_cb x)), .int (pz_b (pz_fa x)), .int (nI (pz_wc x))]))] H := hP
  have hD : va_D A [(h0, .inr (1, [.int (pz_b (pz_on x)), .int (pz_b true), .int (pz_b r0), .int (nI (pz_cw x)), .int (nI (pz_cb x)), .int (pz_b (pz_fa x)), .int (nI (pz_wc x))]))] := hD
  refine lv_aload_n hx hb dXS_plan_10 rfl (lv_at hl 0 rfl) ?_
  refine lv_iload_n hx hb dXS_plan_11 rfl (lv_at hl 1 rfl) ?_
  refine va_put (D := (dC, dI)) (ci := 1) (v := .int (nI k0)) (ty := .int) (C := "ParityArray$Supply") (T := TXS) (N := 7) hx hb hts (fun w h => List.mem_cons_of_mem _ (inXS w h)) tyXS tyXS_ok nmXS hown hK hP hD hS 0 rfl rfl 3 (by decide) (hts _ (List.mem_cons_of_mem _ tw_35)) (fun _ h9 => h9) rfl (by decide +kernel) rfl rfl (Nat.le_of_ble_eq_true rfl) dXS_plan_12 (fun H locs hP hD hS => ?_)
  have hP : va_P (dC, dI) vwCl [(h0, .inr (1, [.int (pz_b (pz_on x)), .int (pz_b true), .int (pz_b r0), .int (nI k0), .int (nI (pz_cb x)), .int (pz_b (pz_fa x)), .int (nI (pz_wc x))]))] H := hP
  have hD : va_D A [(h0, .inr (1, [.int (pz_b (pz_on x)), .int (pz_b true), .int (pz_b r0), .int (nI k0), .int (nI (pz_cb x)), .int (pz_b (pz_fa x)), .int (nI (pz_wc x))]))] := hD
  refine lv_aload_n hx hb dXS_plan_15 rfl (lv_at hl 0 rfl) ?_
  refine lv_iload_n hx hb dXS_plan_16 rfl (lv_at hl 2 rfl) ?_
  refine va_put (D := (dC, dI)) (ci := 1) (v := .int (nI b0)) (ty := .int) (C := "ParityArray$Supply") (T := TXS) (N := 7) hx hb hts (fun w h => List.mem_cons_of_mem _ (inXS w h)) tyXS tyXS_ok nmXS hown hK hP hD hS 0 rfl rfl 4 (by decide) (hts _ (List.mem_cons_of_mem _ tw_36)) (fun _ h9 => h9) rfl (by decide +kernel) rfl rfl (Nat.le_of_ble_eq_true rfl) dXS_plan_17 (fun H locs hP hD hS => ?_)
  have hP : va_P (dC, dI) vwCl [(h0, .inr (1, [.int (pz_b (pz_on x)), .int (pz_b true), .int (pz_b r0), .int (nI k0), .int (nI b0), .int (pz_b (pz_fa x)), .int (nI (pz_wc x))]))] H := hP
  have hD : va_D A [(h0, .inr (1, [.int (pz_b (pz_on x)), .int (pz_b true), .int (pz_b r0), .int (nI k0), .int (nI b0), .int (pz_b (pz_fa x)), .int (nI (pz_wc x))]))] := hD
  exact W.vret hx hb hr (fun t ht hW => ⟨⟨(pz_on x, true, r0, k0, b0, pz_fa x, pz_wc x), rfl, rfl, by rw [ht]; exact hP, va_K.moved hW.alike hK, hAe ▸ hD⟩, hS.F ht⟩) hS.2.2 dXS_plan_20

set_option maxHeartbeats 4000000 in
set_option maxRecDepth 100000 in
/-- the plan forgotten -/
theorem c_XS_forgetPlan (l : Launch) (dC : Nat → ClassId) (dI : Nat → Nat → Nat) (sz : Nat) (h0 : Nat) (x : pz_Su) : Met l yXS_forgetPlan wsXS_forgetPlan ({ frames := 0, cells := 0, slots := 0, locals := 0 }) (va_Pc [.ref h0] (fun U => U.heap.size = sz ∧ va_P (dC, dI) vwCl (pz_SW h0 x) U.heap ∧ va_K (dC, dI) vwCl [] U ∧ va_D (fun _ => True) (pz_SW h0 x))) (va_Qv (fun (u : pz_Su) => u = pz_fgt x) (fun u t => va_P (dC, dI) vwCl (pz_SW h0 u) t.heap ∧ va_K (dC, dI) vwCl [] t ∧ va_D (va_A (pz_SW h0 x) sz) (pz_SW h0 u)) (va_A (pz_SW h0 x) sz)) 0 0 (va_A (pz_SW h0 x) sz) := by
  refine Met.ofW (cc := cXS_forgetPlan) (maxL := 1) (ret := none) (by decide) rfl ?_
  intro p e s m args below meth c s₁ B hml hv
  obtain ⟨rfl, hsz, hP, hK, hD0⟩ := hv
  have hx := B.exec
  have hb := B.bytes
  have hr := B.returns
  have hts := atoms_spec (ws := wsXS_forgetPlan) B.pre
  have hown : s.vm.findClass "ParityArray$Supply" = some m.cls := findClass_of_methodNamed B.named
  have hlocks := B.notSynchronized
  subst hsz
  have hD := hD0.self (sz := s.heap.size)
  generalize hAe : va_A (pz_SW h0 x) s.heap.size = A at hD ⊢
  have hA : ∀ q : Nat, s.heap.size ≤ q → A q := fun q h => by rw [← hAe]; exact Or.inr h
  have hS : va_S A s.heap s.heap [] := va_S.rf
  have hl := lv_entry ([.ref h0]) (n := 1) (Nat.le_of_ble_eq_true rfl)
  rw [lg_entry_eq]
  generalize (lg_sl ([.ref h0]) ++ List.replicate (1 - (lg_sl ([.ref h0])).length) Slot.unset).toArray = ls at hl ⊢
  have hl : lv_has ls 1 [(0, .ref h0)] := hl
  have hP : va_P (dC, dI) vwCl [(h0, .inr (1, [.int (pz_b (pz_on x)), .int (pz_b (pz_pl x)), .int (pz_b (pz_pr x)), .int (nI (pz_cw x)), .int (nI (pz_cb x)), .int (pz_b (pz_fa x)), .int (nI (pz_wc x))]))] s.heap := hP
  have hD : va_D A [(h0, .inr (1, [.int (pz_b (pz_on x)), .int (pz_b (pz_pl x)), .int (pz_b (pz_pr x)), .int (nI (pz_cw x)), .int (nI (pz_cb x)), .int (pz_b (pz_fa x)), .int (nI (pz_wc x))]))] := hD
  refine lv_aload_n hx hb dXS_forgetPlan_0 rfl (lv_at hl 0 rfl) ?_
  refine lv_iconst (v := nI 0) hx hb dXS_forgetPlan_1 (by decide) ?_
  refine va_put (D := (dC, dI)) (ci := 1) (v := .int (nI 0)) (ty := .boolean) (C := "ParityArray$Supply") (T := TXS) (N := 7) hx hb hts (fun w h => List.mem_cons_of_mem _ (inXS w h)) tyXS tyXS_ok nmXS hown hK hP hD hS 0 rfl rfl 1 (by decide) (hts _ (List.mem_cons_of_mem _ tw_33)) (fun _ h9 => h9) rfl (by decide +kernel) rfl rfl (Nat.le_of_ble_eq_true rfl) dXS_forgetPlan_2 (fun H locs hP hD hS => ?_)
  have hP : va_P (dC, dI) vwCl [(h0, .inr (1, [.int (pz_b (pz_on x)), .int (pz_b false), .int (pz_b (pz_pr x)), .int (nI (pz_cw x)), .int (nI (pz_cb x)), .int (pz_b (pz_fa x)), .int (nI (pz_wc x))]))] H := hP
  have hD : va_D A [(h0, .inr (1, [.int (pz_b (pz_on x)), .int (pz_b false), .int (pz_b (pz_pr x)), .int (nI (pz_cw x)), .int (nI (pz_cb x)), .int (pz_b (pz_fa x)), .int (nI (pz_wc x))]))] := hD
  exact W.vret hx hb hr (fun t ht hW => ⟨⟨pz_fgt x, rfl, rfl, by rw [ht]; exact hP, va_K.moved hW.alike hK, hAe ▸ hD⟩, hS.F ht⟩) hS.2.2 dXS_forgetPlan_5

set_option maxHeartbeats 4000000 in
set_option maxRecDepth 100000 in
/-- a set or a recover begins -/
theorem c_XS_begin (l : Launch) (dC : Nat → ClassId) (dI : Nat → Nat → Nat) (sz : Nat) (h0 : Nat) (x : pz_Su) (r0 : Bool) : Met l yXS_begin wsXS_begin ({ frames := 0, cells := 0, slots := 0, locals := 0 }) (va_Pc [.ref h0, .int (pz_b r0)] (fun U => U.heap.size = sz ∧ va_P (dC, dI) vwCl (pz_SW h0 x) U.heap ∧ va_K (dC, dI) vwCl [] U ∧ va_D (fun _ => True) (pz_SW h0 x))) (va_Qv (fun (u : pz_Su) => u = pz_beg r0 x) (fun u t => va_P (dC, dI) vwCl (pz_SW h0 u) t.heap ∧ va_K (dC, dI) vwCl [] t ∧ va_D (va_A (pz_SW h0 x) sz) (pz_SW h0 u)) (va_A (pz_SW h0 x) sz)) 0 0 (va_A (pz_SW h0 x) sz) := by
  refine Met.ofW (cc := cXS_begin) (maxL := 2) (ret := none) (by decide) rfl ?_
  intro p e s m args below meth c s₁ B hml hv
  obtain ⟨rfl, hsz, hP, hK, hD0⟩ := hv
  have hx := B.exec
  have hb := B.bytes
  have hr := B.returns
  have hts := atoms_spec (ws := wsXS_begin) B.pre
  have hown : s.vm.findClass "ParityArray$Supply" = some m.cls := findClass_of_methodNamed B.named
  have hlocks := B.notSynchronized
  subst hsz
  have hD := hD0.self (sz := s.heap.size)
  generalize hAe : va_A (pz_SW h0 x) s.heap.size = A at hD ⊢
  have hA : ∀ q : Nat, s.heap.size ≤ q → A q := fun q h => by rw [← hAe]; exact Or.inr h
  have hS : va_S A s.heap s.heap [] := va_S.rf
  have hl := lv_entry ([.ref h0, .int (pz_b r0)]) (n := 2) (Nat.le_of_ble_eq_true rfl)
  rw [lg_entry_eq]
  generalize (lg_sl ([.ref h0, .int (pz_b r0)]) ++ List.replicate (2 - (lg_sl ([.ref h0, .int (pz_b r0)])).length) Slot.unset).toArray = ls at hl ⊢
  have hl : lv_has ls 2 [(0, .ref h0), (1, .int (pz_b r0))] := hl
  have hP : va_P (dC, dI) vwCl [(h0, .inr (1, [.int (pz_b (pz_on x)), .int (pz_b (pz_pl x)), .int (pz_b (pz_pr x)), .int (nI (pz_cw x)), .int (nI (pz_cb x)), .int (pz_b (pz_fa x)), .int (nI (pz_wc x))]))] s.heap := hP
  have hD : va_D A [(h0, .inr (1, [.int (pz_b (pz_on x)), .int (pz_b (pz_pl x)), .int (pz_b (pz_pr x)), .int (nI (pz_cw x)), .int (nI (pz_cb x)), .int (pz_b (pz_fa x)), .int (nI (pz_wc x))]))] := hD
  refine lv_aload_n hx hb dXS_begin_0 rfl (lv_at hl 0 rfl) ?_
  refine lv_aload_n hx hb dXS_begin_1 rfl (lv_at hl 0 rfl) ?_
  refine va_get (D := (dC, dI)) (ci := 1) (v := .int (pz_b (pz_pl x))) (C := "ParityArray$Supply") (T := TXS) (N := 7) hx hb hts (fun w h => List.mem_cons_of_mem _ (inXS w h)) hown hK hP 0 rfl rfl 1 (by decide) (hts _ (List.mem_cons_of_mem _ tw_33)) (fun _ h9 => h9) rfl dXS_begin_2 ?_
  refine lv_if_eq (tgt := 20) hx hb dXS_begin_5 (by decide) (fun hc => ?_) (fun hc => ?_)
  · have hc : (pz_pl x) = false := pz_b0.mp hc
    refine lv_iconst (v := nI 0) hx hb dXS_begin_20 (by decide) ?_
    refine va_put (D := (dC, dI)) (ci := 1) (v := .int (nI 0)) (ty := .boolean) (C := "ParityArray$Supply") (T := TXS) (N := 7) hx hb hts (fun w h => List.mem_cons_of_mem _ (inXS w h)) tyXS tyXS_ok nmXS hown hK hP hD hS 0 rfl rfl 5 (by decide) (hts _ (List.mem_cons_of_mem _ tw_37)) (fun _ h9 => h9) rfl (by decide +kernel) rfl rfl (Nat.le_of_ble_eq_true rfl) dXS_begin_21 (fun H locs hP hD hS => ?_)
    have hP : va_P (dC, dI) vwCl [(h0, .inr (1, [.int (pz_b (pz_on x)), .int (pz_b (pz_pl x)), .int (pz_b (pz_pr x)), .int (nI (pz_cw x)), .int (nI (pz_cb x)), .int (pz_b false), .int (nI (pz_wc x))]))] H := hP
    have hD : va_D A [(h0, .inr (1, [.int (pz_b (pz_on x)), .int (pz_b (pz_pl x)), .int (pz_b (pz_pr x)), .int (nI (pz_cw x)), .int (nI (pz_cb x)), .int (pz_b false), .int (nI (pz_wc x))]))] := hD
    refine lv_aload_n hx hb dXS_begin_24 rfl (lv_at hl 0 rfl) ?_
    refine lv_iconst (v := nI 0) hx hb dXS_begin_25 (by decide) ?_
    refine va_put (D := (dC, dI)) (ci := 1) (v := .int (nI 0)) (ty := .int) (C := "ParityArray$Supply") (T := TXS) (N := 7) hx hb hts (fun w h => List.mem_cons_of_mem _ (inXS w h)) tyXS tyXS_ok nmXS hown hK hP hD hS 0 rfl rfl 6 (by decide) (hts _ (List.mem_cons_of_mem _ tw_38)) (fun _ h9 => h9) rfl (by decide +kernel) rfl rfl (Nat.le_of_ble_eq_true rfl) dXS_begin_26 (fun H locs hP hD hS => ?_)
    have hP : va_P (dC, dI) vwCl [(h0, .inr (1, [.int (pz_b (pz_on x)), .int (pz_b (pz_pl x)), .int (pz_b (pz_pr x)), .int (nI (pz_cw x)), .int (nI (pz_cb x)), .int (pz_b false), .int (nI 0)]))] H := hP
    have hD : va_D A [(h0, .inr (1, [.int (pz_b (pz_on x)), .int (pz_b (pz_pl x)), .int (pz_b (pz_pr x)), .int (nI (pz_cw x)), .int (nI (pz_cb x)), .int (pz_b false), .int (nI 0)]))] := hD
    exact W.vret hx hb hr (fun t ht hW => ⟨⟨(pz_on x, pz_pl x, pz_pr x, pz_cw x, pz_cb x, false, 0), rfl, by unfold pz_beg; rw [show (x.2.1 && (x.2.2.1 == r0)) = false from by rw [show x.2.1 = false from hc]; rfl], by rw [ht]; exact hP, va_K.moved hW.alike hK, hAe ▸ hD⟩, hS.F ht⟩) hS.2.2 dXS_begin_29
  · have hc : (pz_pl x) = true := pz_bn hc
    have hpl := hc
    refine lv_aload_n hx hb dXS_begin_8 rfl (lv_at hl 0 rfl) ?_
    refine va_get (D := (dC, dI)) (ci := 1) (v := .int (pz_b (pz_pr x))) (C := "ParityArray$Supply") (T := TXS) (N := 7) hx hb hts (fun w h => List.mem_cons_of_mem _ (inXS w h)) hown hK hP 0 rfl rfl 2 (by decide) (hts _ (List.mem_cons_of_mem _ tw_34)) (fun _ h9 => h9) rfl dXS_begin_9 ?_
    refine lv_iload_n hx hb dXS_begin_12 rfl (lv_at hl 1 rfl) ?_
    refine lv_icmp_ne (tgt := 20) hx hb dXS_begin_13 (by decide) (fun hc => ?_) (fun hc => ?_)
    · have hc : ¬ (pz_pr x) = r0 := fun h9 => hc (pz_b_inj.mpr h9)
      refine lv_iconst (v := nI 0) hx hb dXS_begin_20 (by decide) ?_
      refine va_put (D := (dC, dI)) (ci := 1) (v := .int (nI 0)) (ty := .boolean) (C := "ParityArray$Supply") (T := TXS) (N := 7) hx hb hts (fun w h => List.mem_cons_of_mem _ (inXS w h)) tyXS tyXS_ok nmXS hown hK hP hD hS 0 rfl rfl 5 (by decide) (hts _ (List.mem_cons_of_mem _ tw_37)) (fun _ h9 => h9) rfl (by decide +kernel) rfl rfl (Nat.le_of_ble_eq_true rfl) dXS_begin_21 (fun H locs hP hD hS => ?_)
      have hP : va_P (dC, dI) vwCl [(h0, .inr (1, [.int (pz_b (pz_on x)), .int (pz_b (pz_pl x)), .int (pz_b (pz_pr x)), .int (nI (pz_cw x)), .int (nI (pz_cb x)), .int (pz_b false), .int (nI (pz_wc x))]))] H := hP
      have hD : va_D A [(h0, .inr (1, [.int (pz_b (pz_on x)), .int (pz_b (pz_pl x)), .int (pz_b (pz_pr x)), .int (nI (pz_cw x)), .int (nI (pz_cb x)), .int (pz_b false), .int (nI (pz_wc x))]))] := hD
      refine lv_aload_n hx hb dXS_begin_24 rfl (lv_at hl 0 rfl) ?_
      refine lv_iconst (v := nI 0) hx hb dXS_begin_25 (by decide) ?_
      refine va_put (D := (dC, dI)) (ci := 1) (v := .int (nI 0)) (ty := .int) (C := "ParityArray$Supply") (T := TXS) (N := 7) hx hb hts (fun w h => List.mem_cons_of_mem _ (inXS w h)) tyXS tyXS_ok nmXS hown hK hP hD hS 0 rfl rfl 6 (by decide) (hts _ (List.mem_cons_of_mem _ tw_38)) (fun _ h9 => h9) rfl (by decide +kernel) rfl rfl (Nat.le_of_ble_eq_true rfl) dXS_begin_26 (fun H locs hP hD hS => ?_)
      have hP : va_P (dC, dI) vwCl [(h0, .inr (1, [.int (pz_b (pz_on x)), .int (pz_b (pz_pl x)), .int (pz_b (pz_pr x)), .int (nI (pz_cw x)), .int (nI (pz_cb x)), .int (pz_b false), .int (nI 0)]))] H := hP
      have hD : va_D A [(h0, .inr (1, [.int (pz_b (pz_on x)), .int (pz_b (pz_pl x)), .int (pz_b (pz_pr x)), .int (nI (pz_cw x)), .int (nI (pz_cb x)), .int (pz_b false), .int (nI 0)]))] := hD
      exact W.vret hx hb hr (fun t ht hW => ⟨⟨(pz_on x, pz_pl x, pz_pr x, pz_cw x, pz_cb x, false, 0), rfl, by unfold pz_beg; rw [show (x.2.1 && (x.2.2.1 == r0)) = false from by rw [show x.2.1 = true from hpl]; simp; exact hc], by rw [ht]; exact hP, va_K.moved hW.alike hK, hAe ▸ hD⟩, hS.F ht⟩) hS.2.2 dXS_begin_29
    · have hc : (pz_pr x) = r0 := pz_b_inj.mp hc
      refine lv_iconst (v := nI 1) hx hb dXS_begin_16 (by decide) ?_
      refine lv_goto (tgt := 21) hx hb dXS_begin_17 (by decide) ?_
      refine va_put (D := (dC, dI)) (ci := 1) (v := .int (nI 1)) (ty := .boolean) (C := "ParityArray$Supply") (T := TXS) (N := 7) hx hb hts (fun w h => List.mem_cons_of_mem _ (inXS w h)) tyXS tyXS_ok nmXS hown hK hP hD hS 0 rfl rfl 5 (by decide) (hts _ (List.mem_cons_of_mem _ tw_37)) (fun _ h9 => h9) rfl (by decide +kernel) rfl rfl (Nat.le_of_ble_eq_true rfl) dXS_begin_21 (fun H locs hP hD hS => ?_)
      have hP : va_P (dC, dI) vwCl [(h0, .inr (1, [.int (pz_b (pz_on x)), .int (pz_b (pz_pl x)), .int (pz_b (pz_pr x)), .int (nI (pz_cw x)), .int (nI (pz_cb x)), .int (pz_b true), .int (nI (pz_wc x))]))] H := hP
      have hD : va_D A [(h0, .inr (1, [.int (pz_b (pz_on x)), .int (pz_b (pz_pl x)), .int (pz_b (pz_pr x)), .int (nI (pz_cw x)), .int (nI (pz_cb x)), .int (pz_b true), .int (nI (pz_wc x))]))] := hD
      refine lv_aload_n hx hb dXS_begin_24 rfl (lv_at hl 0 rfl) ?_
      refine lv_iconst (v := nI 0) hx hb dXS_begin_25 (by decide) ?_
      refine va_put (D := (dC, dI)) (ci := 1) (v := .int (nI 0)) (ty := .int) (C := "ParityArray$Supply") (T := TXS) (N := 7) hx hb hts (fun w h => List.mem_cons_of_mem _ (inXS w h)) tyXS tyXS_ok nmXS hown hK hP hD hS 0 rfl rfl 6 (by decide) (hts _ (List.mem_cons_of_mem _ tw_38)) (fun _ h9 => h9) rfl (by decide +kernel) rfl rfl (Nat.le_of_ble_eq_true rfl) dXS_begin_26 (fun H locs hP hD hS => ?_)
      have hP : va_P (dC, dI) vwCl [(h0, .inr (1, [.int (pz_b (pz_on x)), .int (pz_b (pz_pl x)), .int (pz_b (pz_pr x)), .int (nI (pz_cw x)), .int (nI (pz_cb x)), .int (pz_b true), .int (nI 0)]))] H := hP
      have hD : va_D A [(h0, .inr (1, [.int (pz_b (pz_on x)), .int (pz_b (pz_pl x)), .int (pz_b (pz_pr x)), .int (nI (pz_cw x)), .int (nI (pz_cb x)), .int (pz_b true), .int (nI 0)]))] := hD
      exact W.vret hx hb hr (fun t ht hW => ⟨⟨(pz_on x, pz_pl x, pz_pr x, pz_cw x, pz_cb x, true, 0), rfl, by unfold pz_beg; rw [show (x.2.1 && (x.2.2.1 == r0)) = true from by rw [show x.2.1 = true from hpl]; simp; exact hc], by rw [ht]; exact hP, va_K.moved hW.alike hK, hAe ▸ hD⟩, hS.F ht⟩) hS.2.2 dXS_begin_29

set_option maxHeartbeats 4000000 in
set_option maxRecDepth 100000 in
/-- a set or a recover ends -/
theorem c_XS_end (l : Launch) (dC : Nat → ClassId) (dI : Nat → Nat → Nat) (sz : Nat) (h0 : Nat) (x : pz_Su) : Met l yXS_end wsXS_end ({ frames := 0, cells := 0, slots := 0, locals := 0 }) (va_Pc [.ref h0] (fun U => U.heap.size = sz ∧ va_P (dC, dI) vwCl (pz_SW h0 x) U.heap ∧ va_K (dC, dI) vwCl [] U ∧ va_D (fun _ => True) (pz_SW h0 x))) (va_Qv (fun (u : pz_Su) => u = pz_end x) (fun u t => va_P (dC, dI) vwCl (pz_SW h0 u) t.heap ∧ va_K (dC, dI) vwCl [] t ∧ va_D (va_A (pz_SW h0 x) sz) (pz_SW h0 u)) (va_A (pz_SW h0 x) sz)) 0 0 (va_A (pz_SW h0 x) sz) := by
  refine Met.ofW (cc := cXS_end) (maxL := 1) (ret := none) (by decide) rfl ?_
  intro p e s m args below meth c s₁ B hml hv
  obtain ⟨rfl, hsz, hP, hK, hD0⟩ := hv
  have hx := B.exec
  have hb := B.bytes
  have hr := B.returns
  have hts := atoms_spec (ws := wsXS_end) B.pre
  have hown : s.vm.findClass "ParityArray$Supply" = some m.cls := findClass_of_methodNamed B.named
  have hlocks := B.notSynchronized
  subst hsz
  have hD := hD0.self (sz := s.heap.size)
  generalize hAe : va_A (pz_SW h0 x) s.heap.size = A at hD ⊢
  have hA : ∀ q : Nat, s.heap.size ≤ q → A q := fun q h => by rw [← hAe]; exact Or.inr h
  have hS : va_S A s.heap s.heap [] := va_S.rf
  have hl := lv_entry ([.ref h0]) (n := 1) (Nat.le_of_ble_eq_true rfl)
  rw [lg_entry_eq]
  generalize (lg_sl ([.ref h0]) ++ List.replicate (1 - (lg_sl ([.ref h0])).length) Slot.unset).toArray = ls at hl ⊢
  have hl : lv_has ls 1 [(0, .ref h0)] := hl
  have hP : va_P (dC, dI) vwCl [(h0, .inr (1, [.int (pz_b (pz_on x)), .int (pz_b (pz_pl x)), .int (pz_b (pz_pr x)), .int (nI (pz_cw x)), .int (nI (pz_cb x)), .int (pz_b (pz_fa x)), .int (nI (pz_wc x))]))] s.heap := hP
  have hD : va_D A [(h0, .inr (1, [.int (pz_b (pz_on x)), .int (pz_b (pz_pl x)), .int (pz_b (pz_pr x)), .int (nI (pz_cw x)), .int (nI (pz_cb x)), .int (pz_b (pz_fa x)), .int (nI (pz_wc x))]))] := hD
  refine lv_aload_n hx hb dXS_end_0 rfl (lv_at hl 0 rfl) ?_
  refine va_get (D := (dC, dI)) (ci := 1) (v := .int (pz_b (pz_fa x))) (C := "ParityArray$Supply") (T := TXS) (N := 7) hx hb hts (fun w h => List.mem_cons_of_mem _ (inXS w h)) hown hK hP 0 rfl rfl 5 (by decide) (hts _ (List.mem_cons_of_mem _ tw_37)) (fun _ h9 => h9) rfl dXS_end_1 ?_
  refine lv_if_eq (tgt := 22) hx hb dXS_end_4 (by decide) (fun hc => ?_) (fun hc => ?_)
  · have hc : (pz_fa x) = false := pz_b0.mp hc
    exact W.vret hx hb hr (fun t ht hW => ⟨⟨x, rfl, by unfold pz_end; rw [if_neg (by rw [hc]; decide)], by rw [ht]; exact hP, va_K.moved hW.alike hK, hAe ▸ hD⟩, hS.F ht⟩) hS.2.2 dXS_end_22
  · have hc : (pz_fa x) = true := pz_bn hc
    refine lv_aload_n hx hb dXS_end_7 rfl (lv_at hl 0 rfl) ?_
    refine lv_iconst (v := nI 0) hx hb dXS_end_8 (by decide) ?_
    refine va_put (D := (dC, dI)) (ci := 1) (v := .int (nI 0)) (ty := .boolean) (C := "ParityArray$Supply") (T := TXS) (N := 7) hx hb hts (fun w h => List.mem_cons_of_mem _ (inXS w h)) tyXS tyXS_ok nmXS hown hK hP hD hS 0 rfl rfl 0 (by decide) (hts _ (List.mem_cons_of_mem _ tw_31)) (fun _ h9 => h9) rfl (by decide +kernel) rfl rfl (Nat.le_of_ble_eq_true rfl) dXS_end_9 (fun H locs hP hD hS => ?_)
    have hP : va_P (dC, dI) vwCl [(h0, .inr (1, [.int (pz_b false), .int (pz_b (pz_pl x)), .int (pz_b (pz_pr x)), .int (nI (pz_cw x)), .int (nI (pz_cb x)), .int (pz_b (pz_fa x)), .int (nI (pz_wc x))]))] H := hP
    have hD : va_D A [(h0, .inr (1, [.int (pz_b false), .int (pz_b (pz_pl x)), .int (pz_b (pz_pr x)), .int (nI (pz_cw x)), .int (nI (pz_cb x)), .int (pz_b (pz_fa x)), .int (nI (pz_wc x))]))] := hD
    refine lv_aload_n hx hb dXS_end_12 rfl (lv_at hl 0 rfl) ?_
    refine lv_iconst (v := nI 0) hx hb dXS_end_13 (by decide) ?_
    refine va_put (D := (dC, dI)) (ci := 1) (v := .int (nI 0)) (ty := .boolean) (C := "ParityArray$Supply") (T := TXS) (N := 7) hx hb hts (fun w h => List.mem_cons_of_mem _ (inXS w h)) tyXS tyXS_ok nmXS hown hK hP hD hS 0 rfl rfl 1 (by decide) (hts _ (List.mem_cons_of_mem _ tw_33)) (fun _ h9 => h9) rfl (by decide +kernel) rfl rfl (Nat.le_of_ble_eq_true rfl) dXS_end_14 (fun H locs hP hD hS => ?_)
    have hP : va_P (dC, dI) vwCl [(h0, .inr (1, [.int (pz_b false), .int (pz_b false), .int (pz_b (pz_pr x)), .int (nI (pz_cw x)), .int (nI (pz_cb x)), .int (pz_b (pz_fa x)), .int (nI (pz_wc x))]))] H := hP
    have hD : va_D A [(h0, .inr (1, [.int (pz_b false), .int (pz_b false), .int (pz_b (pz_pr x)), .int (nI (pz_cw x)), .int (nI (pz_cb x)), .int (pz_b (pz_fa x)), .int (nI (pz_wc x))]))] := hD
    refine lv_aload_n hx hb dXS_end_17 rfl (lv_at hl 0 rfl) ?_
    refine lv_iconst (v := nI 0) hx hb dXS_end_18 (by decide) ?_
    refine va_put (D := (dC, dI)) (ci := 1) (v := .int (nI 0)) (ty := .boolean) (C := "ParityArray$Supply") (T := TXS) (N := 7) hx hb hts (fun w h => List.mem_cons_of_mem _ (inXS w h)) tyXS tyXS_ok nmXS hown hK hP hD hS 0 rfl rfl 5 (by decide) (hts _ (List.mem_cons_of_mem _ tw_37)) (fun _ h9 => h9) rfl (by decide +kernel) rfl rfl (Nat.le_of_ble_eq_true rfl) dXS_end_19 (fun H locs hP hD hS => ?_)
    have hP : va_P (dC, dI) vwCl [(h0, .inr (1, [.int (pz_b false), .int (pz_b false), .int (pz_b (pz_pr x)), .int (nI (pz_cw x)), .int (nI (pz_cb x)), .int (pz_b false), .int (nI (pz_wc x))]))] H := hP
    have hD : va_D A [(h0, .inr (1, [.int (pz_b false), .int (pz_b false), .int (pz_b (pz_pr x)), .int (nI (pz_cw x)), .int (nI (pz_cb x)), .int (pz_b false), .int (nI (pz_wc x))]))] := hD
    exact W.vret hx hb hr (fun t ht hW => ⟨⟨(false, false, pz_pr x, pz_cw x, pz_cb x, false, pz_wc x), rfl, by unfold pz_end; rw [if_pos hc], by rw [ht]; exact hP, va_K.moved hW.alike hK, hAe ▸ hD⟩, hS.F ht⟩) hS.2.2 dXS_end_22

set_option maxHeartbeats 4000000 in
set_option maxRecDepth 100000 in
/-- how many bytes come through -/
theorem c_XS_letThrough (l : Launch) (dC : Nat → ClassId) (dI : Nat → Nat → Nat) (sz : Nat) (h0 : Nat) (x : pz_Su) (k0 : Nat) (hk0 : k0 ≤ 136) (hcw : pz_cw x ≤ 10) (hcb : pz_cb x ≤ 200) (hwc : pz_wc x < 100) : Met l yXS_letThrough wsXS_letThrough ({ frames := 1, cells := 0, slots := 0, locals := 40 }) (va_Pc [.ref h0, .int (nI k0)] (fun U => U.heap.size = sz ∧ va_P (dC, dI) vwCl (pz_SW h0 x) U.heap ∧ va_K (dC, dI) vwCl [] U ∧ va_D (fun _ => True) (pz_SW h0 x))) (va_Qi (fun (r : Int32) (u : pz_Su) => r = nI (pz_let k0 x).1 ∧ u = (pz_let k0 x).2) (fun u t => va_P (dC, dI) vwCl (pz_SW h0 u) t.heap ∧ va_K (dC, dI) vwCl [] t ∧ va_D (va_A (pz_SW h0 x) sz) (pz_SW h0 u)) (va_A (pz_SW h0 x) sz)) 0 0 (va_A (pz_SW h0 x) sz) := by
  refine Met.ofW (cc := cXS_letThrough) (maxL := 2) (ret := (some .int)) (by decide) rfl ?_
  intro p e s m args below meth c s₁ B hml hv
  obtain ⟨rfl, hsz, hP, hK, hD0⟩ := hv
  have hx := B.exec
  have hb := B.bytes
  have hr := B.returns
  have hts := atoms_spec (ws := wsXS_letThrough) B.pre
  have hown : s.vm.findClass "ParityArray$Supply" = some m.cls := findClass_of_methodNamed B.named
  have hlocks := B.notSynchronized
  subst hsz
  have hD := hD0.self (sz := s.heap.size)
  generalize hAe : va_A (pz_SW h0 x) s.heap.size = A at hD ⊢
  have hA : ∀ q : Nat, s.heap.size ≤ q → A q := fun q h => by rw [← hAe]; exact Or.inr h
  have hS : va_S A s.heap s.heap [] := va_S.rf
  have hl := lv_entry ([.ref h0, .int (nI k0)]) (n := 2) (Nat.le_of_ble_eq_true rfl)
  rw [lg_entry_eq]
  generalize (lg_sl ([.ref h0, .int (nI k0)]) ++ List.replicate (2 - (lg_sl ([.ref h0, .int (nI k0)])).length) Slot.unset).toArray = ls at hl ⊢
  have hl : lv_has ls 2 [(0, .ref h0), (1, .int (nI k0))] := hl
  have hP : va_P (dC, dI) vwCl [(h0, .inr (1, [.int (pz_b (pz_on x)), .int (pz_b (pz_pl x)), .int (pz_b (pz_pr x)), .int (nI (pz_cw x)), .int (nI (pz_cb x)), .int (pz_b (pz_fa x)), .int (nI (pz_wc x))]))] s.heap := hP
  have hD : va_D A [(h0, .inr (1, [.int (pz_b (pz_on x)), .int (pz_b (pz_pl x)), .int (pz_b (pz_pr x)), .int (nI (pz_cw x)), .int (nI (pz_cb x)), .int (pz_b (pz_fa x)), .int (nI (pz_wc x))]))] := hD
  refine lv_aload_n hx hb dXS_letThrough_0 rfl (lv_at hl 0 rfl) ?_
  refine va_get (D := (dC, dI)) (ci := 1) (v := .int (pz_b (pz_on x))) (C := "ParityArray$Supply") (T := TXS) (N := 7) hx hb hts (fun w h => List.mem_cons_of_mem _ (inXS w h)) hown hK hP 0 rfl rfl 0 (by decide) (hts _ (List.mem_cons_of_mem _ tw_31)) (fun _ h9 => h9) rfl dXS_letThrough_1 ?_
  refine lv_if_ne (tgt := 9) hx hb dXS_letThrough_4 (by decide) (fun hc => ?_) (fun hc => ?_)
  · have hc : (pz_on x) = true := pz_bn hc
    have hon := hc
    refine lv_aload_n hx hb dXS_letThrough_9 rfl (lv_at hl 0 rfl) ?_
    refine va_get (D := (dC, dI)) (ci := 1) (v := .int (pz_b (pz_fa x))) (C := "ParityArray$Supply") (T := TXS) (N := 7) hx hb hts (fun w h => List.mem_cons_of_mem _ (inXS w h)) hown hK hP 0 rfl rfl 5 (by decide) (hts _ (List.mem_cons_of_mem _ tw_37)) (fun _ h9 => h9) rfl dXS_letThrough_10 ?_
    refine lv_if_eq (tgt := 41) hx hb dXS_letThrough_13 (by decide) (fun hc => ?_) (fun hc => ?_)
    · have hc : (pz_fa x) = false := pz_b0.mp hc
      refine lv_aload_n hx hb dXS_letThrough_41 rfl (lv_at hl 0 rfl) ?_
      refine lv_dup hx hb dXS_letThrough_42 rfl ?_
      refine va_get (D := (dC, dI)) (ci := 1) (v := .int (nI (pz_wc x))) (C := "ParityArray$Supply") (T := TXS) (N := 7) hx hb hts (fun w h => List.mem_cons_of_mem _ (inXS w h)) hown hK hP 0 rfl rfl 6 (by decide) (hts _ (List.mem_cons_of_mem _ tw_38)) (fun _ h9 => h9) rfl dXS_letThrough_43 ?_
      refine lv_iconst (v := nI 1) hx hb dXS_letThrough_46 (by decide) ?_
      refine lv_iadd hx hb dXS_letThrough_47 ?_
      refine lv_topi (nm_r (nI_add (pz_wc x) 1) ?_)
      refine va_put (D := (dC, dI)) (ci := 1) (v := .int (nI ((pz_wc x) + 1))) (ty := .int) (C := "ParityArray$Supply") (T := TXS) (N := 7) hx hb hts (fun w h => List.mem_cons_of_mem _ (inXS w h)) tyXS tyXS_ok nmXS hown hK hP hD hS 0 rfl rfl 6 (by decide) (hts _ (List.mem_cons_of_mem _ tw_38)) (fun _ h9 => h9) rfl (by decide +kernel) rfl rfl (Nat.le_of_ble_eq_true rfl) dXS_letThrough_48 (fun H locs hP hD hS => ?_)
      have hP : va_P (dC, dI) vwCl [(h0, .inr (1, [.int (pz_b (pz_on x)), .int (pz_b (pz_pl x)), .int (pz_b (pz_pr x)), .int (nI (pz_cw x)), .int (nI (pz_cb x)), .int (pz_b (pz_fa x)), .int (nI ((pz_wc x) + 1))]))] H := hP
      have hD : va_D A [(h0, .inr (1, [.int (pz_b (pz_on x)), .int (pz_b (pz_pl x)), .int (pz_b (pz_pr x)), .int (nI (pz_cw x)), .int (nI (pz_cb x)), .int (pz_b (pz_fa x)), .int (nI ((pz_wc x) + 1))]))] := hD
      refine lv_iload_n hx hb dXS_letThrough_51 rfl (lv_at hl 1 rfl) ?_
      exact W.iret (v := nI k0) hx hb hr (fun t ht hW => ⟨⟨_, (pz_on x, pz_pl x, pz_pr x, pz_cw x, pz_cb x, pz_fa x, pz_wc x + 1), rfl, by unfold pz_let; rw [if_neg (by rw [hon]; decide), if_neg (fun h9 => by rw [hc] at h9; exact absurd h9.1 (by decide))]; exact ⟨rfl, rfl⟩, by rw [ht]; exact hP, va_K.moved hW.alike hK, hAe ▸ hD⟩, hS.F ht⟩) hS.2.2 dXS_letThrough_52
    · have hc : (pz_fa x) = true := pz_bn hc
      have hfa := hc
      refine lv_aload_n hx hb dXS_letThrough_16 rfl (lv_at hl 0 rfl) ?_
      refine va_get (D := (dC, dI)) (ci := 1) (v := .int (nI (pz_wc x))) (C := "ParityArray$Supply") (T := TXS) (N := 7) hx hb hts (fun w h => List.mem_cons_of_mem _ (inXS w h)) hown hK hP 0 rfl rfl 6 (by decide) (hts _ (List.mem_cons_of_mem _ tw_38)) (fun _ h9 => h9) rfl dXS_letThrough_17 ?_
      refine lv_aload_n hx hb dXS_letThrough_20 rfl (lv_at hl 0 rfl) ?_
      refine va_get (D := (dC, dI)) (ci := 1) (v := .int (nI (pz_cw x))) (C := "ParityArray$Supply") (T := TXS) (N := 7) hx hb hts (fun w h => List.mem_cons_of_mem _ (inXS w h)) hown hK hP 0 rfl rfl 3 (by decide) (hts _ (List.mem_cons_of_mem _ tw_35)) (fun _ h9 => h9) rfl dXS_letThrough_21 ?_
      refine lv_icmp_ne (tgt := 41) hx hb dXS_letThrough_24 (by decide) (fun hc => ?_) (fun hc => ?_)
      · have hc : ¬ (pz_wc x) = (pz_cw x) := fun h9 => hc ((nI_eq (a := (pz_wc x)) (b := (pz_cw x)) (by omega) (by omega)).mpr h9)
        refine lv_aload_n hx hb dXS_letThrough_41 rfl (lv_at hl 0 rfl) ?_
        refine lv_dup hx hb dXS_letThrough_42 rfl ?_
        refine va_get (D := (dC, dI)) (ci := 1) (v := .int (nI (pz_wc x))) (C := "ParityArray$Supply") (T := TXS) (N := 7) hx hb hts (fun w h => List.mem_cons_of_mem _ (inXS w h)) hown hK hP 0 rfl rfl 6 (by decide) (hts _ (List.mem_cons_of_mem _ tw_38)) (fun _ h9 => h9) rfl dXS_letThrough_43 ?_
        refine lv_iconst (v := nI 1) hx hb dXS_letThrough_46 (by decide) ?_
        refine lv_iadd hx hb dXS_letThrough_47 ?_
        refine lv_topi (nm_r (nI_add (pz_wc x) 1) ?_)
        refine va_put (D := (dC, dI)) (ci := 1) (v := .int (nI ((pz_wc x) + 1))) (ty := .int) (C := "ParityArray$Supply") (T := TXS) (N := 7) hx hb hts (fun w h => List.mem_cons_of_mem _ (inXS w h)) tyXS tyXS_ok nmXS hown hK hP hD hS 0 rfl rfl 6 (by decide) (hts _ (List.mem_cons_of_mem _ tw_38)) (fun _ h9 => h9) rfl (by decide +kernel) rfl rfl (Nat.le_of_ble_eq_true rfl) dXS_letThrough_48 (fun H locs hP hD hS => ?_)
        have hP : va_P (dC, dI) vwCl [(h0, .inr (1, [.int (pz_b (pz_on x)), .int (pz_b (pz_pl x)), .int (pz_b (pz_pr x)), .int (nI (pz_cw x)), .int (nI (pz_cb x)), .int (pz_b (pz_fa x)), .int (nI ((pz_wc x) + 1))]))] H := hP
        have hD : va_D A [(h0, .inr (1, [.int (pz_b (pz_on x)), .int (pz_b (pz_pl x)), .int (pz_b (pz_pr x)), .int (nI (pz_cw x)), .int (nI (pz_cb x)), .int (pz_b (pz_fa x)), .int (nI ((pz_wc x) + 1))]))] := hD
        refine lv_iload_n hx hb dXS_letThrough_51 rfl (lv_at hl 1 rfl) ?_
        exact W.iret (v := nI k0) hx hb hr (fun t ht hW => ⟨⟨_, (pz_on x, pz_pl x, pz_pr x, pz_cw x, pz_cb x, pz_fa x, pz_wc x + 1), rfl, by unfold pz_let; rw [if_neg (by rw [hon]; decide), if_neg (fun h9 => hc h9.2)]; exact ⟨rfl, rfl⟩, by rw [ht]; exact hP, va_K.moved hW.alike hK, hAe ▸ hD⟩, hS.F ht⟩) hS.2.2 dXS_letThrough_52
      · have hc : (pz_wc x) = (pz_cw x) := (nI_eq (a := (pz_wc x)) (b := (pz_cw x)) (by omega) (by omega)).mp hc
        refine lv_aload_n hx hb dXS_letThrough_27 rfl (lv_at hl 0 rfl) ?_
        refine lv_iconst (v := nI 0) hx hb dXS_letThrough_28 (by decide) ?_
        refine va_put (D := (dC, dI)) (ci := 1) (v := .int (nI 0)) (ty := .boolean) (C := "ParityArray$Supply") (T := TXS) (N := 7) hx hb hts (fun w h => List.mem_cons_of_mem _ (inXS w h)) tyXS tyXS_ok nmXS hown hK hP hD hS 0 rfl rfl 0 (by decide) (hts _ (List.mem_cons_of_mem _ tw_31)) (fun _ h9 => h9) rfl (by decide +kernel) rfl rfl (Nat.le_of_ble_eq_true rfl) dXS_letThrough_29 (fun H locs hP hD hS => ?_)
        have hP : va_P (dC, dI) vwCl [(h0, .inr (1, [.int (pz_b false), .int (pz_b (pz_pl x)), .int (pz_b (pz_pr x)), .int (nI (pz_cw x)), .int (nI (pz_cb x)), .int (pz_b (pz_fa x)), .int (nI (pz_wc x))]))] H := hP
        have hD : va_D A [(h0, .inr (1, [.int (pz_b false), .int (pz_b (pz_pl x)), .int (pz_b (pz_pr x)), .int (nI (pz_cw x)), .int (nI (pz_cb x)), .int (pz_b (pz_fa x)), .int (nI (pz_wc x))]))] := hD
        refine lv_aload_n hx hb dXS_letThrough_32 rfl (lv_at hl 0 rfl) ?_
        refine va_get (D := (dC, dI)) (ci := 1) (v := .int (nI (pz_cb x))) (C := "ParityArray$Supply") (T := TXS) (N := 7) hx hb hts (fun w h => List.mem_cons_of_mem _ (inXS w h)) hown hK hP 0 rfl rfl 4 (by decide) (hts _ (List.mem_cons_of_mem _ tw_36)) (fun _ h9 => h9) rfl dXS_letThrough_33 ?_
        refine lv_iload_n hx hb dXS_letThrough_36 rfl (lv_at hl 1 rfl) ?_
        refine va_mmin hx hb (by rw [hml]; exact hl.1.symm) hown (hts _ (List.mem_cons_of_mem _ tw_235)) (hts _ (List.mem_cons_of_mem _ tw_236)) (hts _ (List.mem_cons_of_mem _ tw_10)) (hts _ (List.mem_cons_of_mem _ tw_237)) (Nat.le_of_ble_eq_true rfl) (Nat.le_of_ble_eq_true rfl) (Nat.zero_le _) (Nat.zero_le _) dXS_letThrough_37 ?_
        refine lv_topi (nm_r (pz_min (by omega) (by omega)) ?_)
        exact W.iret (v := nI (min (pz_cb x) k0)) hx hb hr (fun t ht hW => ⟨⟨_, (false, x.2), rfl, by unfold pz_let; rw [if_neg (by rw [hon]; decide), if_pos ⟨hfa, hc⟩]; exact ⟨rfl, rfl⟩, by rw [ht]; exact hP, va_K.moved hW.alike hK, hAe ▸ hD⟩, hS.F ht⟩) hS.2.2 dXS_letThrough_40
  · have hc : (pz_on x) = false := pz_b0.mp hc
    refine lv_iconst (v := nI 0) hx hb dXS_letThrough_7 (by decide) ?_
    exact W.iret (v := nI 0) hx hb hr (fun t ht hW => ⟨⟨_, x, rfl, by unfold pz_let; rw [if_pos hc]; exact ⟨rfl, rfl⟩, by rw [ht]; exact hP, va_K.moved hW.alike hK, hAe ▸ hD⟩, hS.F ht⟩) hS.2.2 dXS_letThrough_8
