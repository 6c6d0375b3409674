/-! constructors, loseAll, mendParity, isParityRight (laid by a program) -/
set_option maxHeartbeats 4000000 in
set_option maxRecDepth 100000 in
theorem c_XA_fill (l : Launch) (dC : Nat → ClassId) (dI : Nat → Nat → Nat) (sz : Nat) (aR : Nat) (cJ : ClassId) (f : Nat → Int64) (v : Int64) : Met l yXA_fill wsXA_fill ({ frames := 0, cells := 0, slots := 0, locals := 0 }) (va_Pc [.ref aR, .long v] (fun U => U.heap.size = sz ∧ va_P (dC, dI) vwCl [(aR, .inl (cJ, 2400, .inr (.inl f)))] U.heap ∧ va_K (dC, dI) vwCl [(cJ, .long)] U ∧ va_D (fun _ => True) [(aR, .inl (cJ, 2400, .inr (.inl f)))])) (va_Qv (fun (u : Nat → Int64) => True) (fun u t => va_P (dC, dI) vwCl [(aR, .inl (cJ, 2400, .inr (.inl u)))] t.heap ∧ va_K (dC, dI) vwCl [(cJ, .long)] t ∧ va_D (va_A [(aR, .inl (cJ, 2400, .inr (.inl f)))] sz) [(aR, .inl (cJ, 2400, .inr (.inl u)))]) (va_A [(aR, .inl (cJ, 2400, .inr (.inl f)))] sz)) 0 0 (va_A [(aR, .inl (cJ, 2400, .inr (.inl f)))] sz) := by
  refine Met.ofW (cc := cXA_fill) (maxL := 5) (ret := none) (by decide) rfl ?_
  intro p e s m args below meth c s₁ B hml hv
  obtain ⟨rfl, hsz, hP, hK, hD0⟩ := hv
  have hx := B.exec
  have hb := B.bytes
  have hr := B.returns
  have hts := atoms_spec (ws := wsXA_fill) B.pre
  have hown : s.vm.findClass "java/util/Arrays" = some m.cls := findClass_of_methodNamed B.named
  have hlocks := B.notSynchronized
  subst hsz
  have hD := hD0.self (sz := s.heap.size)
  generalize hAe : va_A [(aR, .inl (cJ, 2400, .inr (.inl f)))] s.heap.size = A at hD ⊢
  have hA : ∀ q : Nat, s.heap.size ≤ q → A q := fun q h => by rw [← hAe]; exact Or.inr h
  have hS : va_S A s.heap s.heap [] := va_S.rf
  have hl := lv_entry ([.ref aR, .long v]) (n := 5) (Nat.le_of_ble_eq_true rfl)
  rw [lg_entry_eq]
  generalize (lg_sl ([.ref aR, .long v]) ++ List.replicate (5 - (lg_sl ([.ref aR, .long v])).length) Slot.unset).toArray = ls at hl ⊢
  have hl : lv_has ls 5 [(0, .ref aR), (1, .long v)] := hl
  have hP : va_P (dC, dI) vwCl [(aR, .inl (cJ, 2400, .inr (.inl f)))] s.heap := hP
  have hD : va_D A [(aR, .inl (cJ, 2400, .inr (.inl f)))] := hD
  refine lv_iconst (v := nI 0) hx hb dXA_fill_0 (by decide) ?_
  refine lv_istore_n hx hb dXA_fill_1 rfl hl (by decide) rfl (fun ls hl => ?_)
  have hl : lv_has ls 5 [(3, .int (nI 0)), (0, .ref aR), (1, .long v)] := hl
  refine lv_aload_n hx hb dXA_fill_2 rfl (lv_at hl 1 rfl) ?_
  refine va_alen (v := nI 2400) hx hb hK hP 0 0 rfl rfl rfl dXA_fill_3 ?_
  refine lv_istore hx hb dXA_fill_4 hl (by decide) rfl (fun ls hl => ?_)
  have hl : lv_has ls 5 [(4, .int (nI 2400)), (3, .int (nI 0)), (0, .ref aR), (1, .long v)] := hl
  refine pz_loop (fun _ => 0) (fun _ => 0) 2400 (fun k ls H locs => ∃ f1 : Nat → Int64, (lv_has ls 5 [(4, .int (nI 2400)), (3, .int (nI k)), (0, .ref aR), (1, .long v)] ∨ lv_has ls 5 [(3, .int (nI k)), (4, .int (nI 2400)), (0, .ref aR), (1, .long v)]) ∧ va_P (dC, dI) vwCl [(aR, .inl (cJ, 2400, .inr (.inl f1)))] H ∧ va_D A [(aR, .inl (cJ, 2400, .inr (.inl f1)))] ∧ va_S A s.heap H locs) ?_ ?_ 2400 0 (by omega) _ _ _ ⟨f, Or.inl hl, hP, hD, hS⟩
  · intro k ls H locs hk hI ih
    obtain ⟨f1, hl, hP, hD, hS⟩ := hI
    have hl : lv_has ls 5 [(4, .int (nI 2400)), (3, .int (nI k)), (0, .ref aR), (1, .long v)] := hl.elim (fun h => h) (fun h => lv_sub h [1, 0, 2, 3] rfl)
    refine lv_iload_n hx hb dXA_fill_6 rfl (lv_at hl 1 rfl) ?_
    refine lv_iload hx hb dXA_fill_7 (lv_at hl 0 rfl) ?_
    refine lv_icmp_ge (tgt := 22) hx hb dXA_fill_9 (by decide) (fun hc => absurd hc (nI_ge hk (by decide))) (fun _ => ?_)
    refine lv_aload_n hx hb dXA_fill_12 rfl (lv_at hl 2 rfl) ?_
    refine lv_iload_n hx hb dXA_fill_13 rfl (lv_at hl 1 rfl) ?_
    refine lv_lload_n hx hb dXA_fill_14 rfl (lv_at hl 3 rfl) ?_
    refine va_last hx hb hK hP hD hS 0 0 rfl rfl (vp_in_nI (by omega) (by decide)) dXA_fill_15 (fun H locs hP hD hS => ?_)
    rw [nI_clamp (show k < 2 ^ 31 by omega)] at hP hD
    have hP : va_P (dC, dI) vwCl [(aR, .inl (cJ, 2400, .inr (.inl (vp_updL f1 k v))))] H := hP
    have hD : va_D A [(aR, .inl (cJ, 2400, .inr (.inl (vp_updL f1 k v))))] := hD
    refine lv_iinc (k := 1) (v := nI (k + 1)) hx hb dXA_fill_16 hl rfl (by rw [nI_succ]; rfl) (by decide) rfl (fun ls hl => ?_)
    have hl : lv_has ls 5 [(3, .int (nI (k + 1))), (4, .int (nI 2400)), (0, .ref aR), (1, .long v)] := hl
    refine lv_goto (tgt := 6) hx hb dXA_fill_19 (by decide) ?_
    exact ih _ _ _ ⟨_, Or.inr hl, hP, hD, hS⟩
  · intro ls H locs hI
    obtain ⟨f1, hl, hP, hD, hS⟩ := hI
    have hl : lv_has ls 5 [(4, .int (nI 2400)), (3, .int (nI 2400)), (0, .ref aR), (1, .long v)] := hl.elim (fun h => h) (fun h => lv_sub h [1, 0, 2, 3] rfl)
    refine lv_iload_n hx hb dXA_fill_6 rfl (lv_at hl 1 rfl) ?_
    refine lv_iload hx hb dXA_fill_7 (lv_at hl 0 rfl) ?_
    refine lv_icmp_ge (tgt := 22) hx hb dXA_fill_9 (by decide) (fun _ => ?_) (fun hc => absurd hc (fun h9 => h9 (nI_le (Nat.le_refl 2400) (by decide))))
    exact W.vret hx hb hr (fun t ht hW => ⟨⟨f1, rfl, trivial, by rw [ht]; exact hP, va_K.moved hW.alike hK, hAe ▸ hD⟩, hS.F ht⟩) hS.2.2 dXA_fill_22

set_option maxHeartbeats 4000000 in
set_option maxRecDepth 100000 in
/-- all is lost -/
theorem c_XD_loseAll (l : Launch) (dC : Nat → ClassId) (dI : Nat → Nat → Nat) (sz : Nat) (h0 aR aC : Nat) (cJ : ClassId) (x : pz_Dk) : Met l yXD_loseAll wsXD_loseAll ({ frames := 1, cells := 0, slots := 0, locals := 24 }) (va_Pc [.ref h0] (fun U => U.heap.size = sz ∧ va_P (dC, dI) vwCl (pz_DW h0 aR aC cJ x) U.heap ∧ va_K (dC, dI) vwCl [(cJ, .long)] U ∧ va_D (fun _ => True) (pz_DW h0 aR aC cJ x))) (va_Qv (fun (u : pz_Dk) => ∃ f : Nat → Int64, u = (f, pz_rc x, none, true, 0)) (fun u t => va_P (dC, dI) vwCl (pz_DW h0 aR aC cJ u) t.heap ∧ va_K (dC, dI) vwCl [(cJ, .long)] t ∧ va_D (va_A (pz_DW h0 aR aC cJ x) sz) (pz_DW h0 aR aC cJ u)) (va_A (pz_DW h0 aR aC cJ x) sz)) 0 0 (va_A (pz_DW h0 aR aC cJ x) sz) := by
  refine Met.ofW (cc := cXD_loseAll) (maxL := 1) (ret := none) (by decide) rfl ?_
  intro p e s m args below meth c s₁ B hml hv
  obtain ⟨rfl, hsz, hP, hK, hD0⟩ := hv
  have hx := B.exec
  have hb := B.bytes
  have hr := B.returns
  have hts := atoms_spec (ws := wsXD_loseAll) B.pre
  have hown : s.vm.findClass "ParityArray$Disk" = some m.cls := findClass_of_methodNamed B.named
  have hlocks := B.notSynchronized
  subst hsz
  have hD := hD0.self (sz := s.heap.size)
  generalize hAe : va_A (pz_DW h0 aR aC cJ x) s.heap.size = A at hD ⊢
  have hA : ∀ q : Nat, s.heap.size ≤ q → A q := fun q h => by rw [← hAe]; exact Or.inr h
  have hS : va_S A s.heap s.heap [] := va_S.rf
  have hl := lv_entry ([.ref h0]) (n := 1) (Nat.le_of_ble_eq_true rfl)
  rw [lg_entry_eq]
  generalize (lg_sl ([.ref h0]) ++ List.replicate (1 - (lg_sl ([.ref h0])).length) Slot.unset).toArray = ls at hl ⊢
  have hl : lv_has ls 1 [(0, .ref h0)] := hl
  have hP : va_P (dC, dI) vwCl [(h0, .inr (0, [.ref aR, .ref aC, .int (pz_o (pz_rb x)), .int (pz_b (pz_dd x)), .int (nI (pz_th x))])), (aR, .inl (cJ, 2400, .inr (.inl (pz_R x)))), (aC, .inl (cJ, 16, .inr (.inl (pz_rc x))))] s.heap := hP
  have hD : va_D A [(h0, .inr (0, [.ref aR, .ref aC, .int (pz_o (pz_rb x)), .int (pz_b (pz_dd x)), .int (nI (pz_th x))])), (aR, .inl (cJ, 2400, .inr (.inl (pz_R x)))), (aC, .inl (cJ, 16, .inr (.inl (pz_rc x))))] := hD
  refine lv_aload_n hx hb dXD_loseAll_0 rfl (lv_at hl 0 rfl) ?_
  refine va_get (D := (dC, dI)) (ci := 0) (v := .ref aR) (C := "ParityArray$Disk") (T := TXD) (N := 5) hx hb hts (fun w h => List.mem_cons_of_mem _ (inXD w h)) hown hK hP 0 rfl rfl 0 (by decide) (hts _ (List.mem_cons_of_mem _ tw_59)) (fun _ h9 => h9) rfl dXD_loseAll_1 ?_
  refine lv_lconst (v := 0) hx hb dXD_loseAll_4 (by decide) ?_
  have hPc := hP.sub (ws' := [(aR, .inl (cJ, 2400, .inr (.inl (pz_R x))))]) [1] rfl
  have hDc := hD.sub (ws' := [(aR, .inl (cJ, 2400, .inr (.inl (pz_R x))))]) [1] (by decide) rfl
  have hFc := va_free (wc := [(aR, .inl (cJ, 2400, .inr (.inl (pz_R x))))]) hD hS hA [1] rfl
  refine va_callv (va_runS (As := [.ref aR, .long 0]) (rest := []) ⟨hx, hb, hml, hown, hts⟩ (c_XA_fill l dC dI _ aR cJ (pz_R x) 0) (va_cwS 2 hts (pz_gc (List.mem_cons_of_mem _ tw_298) rfl (pz_gc (List.mem_cons_of_mem _ tw_299) rfl (pz_gc (List.mem_cons_of_mem _ tw_13) rfl (pz_gi tcXA_fill)))) rfl rfl rfl (by decide +kernel) ⟨Nat.le_of_ble_eq_true rfl, Nat.le_of_ble_eq_true rfl⟩) (pz_preSw hPc hK hDc) rfl rfl hl.1 rfl (lv_room (Nat.le_of_ble_eq_true rfl)) dXD_loseAll_5 ⟨Nat.zero_le _, Nat.zero_le _⟩) hS (fun q _ h => hFc q h) hFc (fun u t H1 locs ht hvm hw hB hz hk1 hS => ?_)
  obtain ⟨hP1, hK1, hD1⟩ := hB
  rw [ht] at hP1
  obtain ⟨hP, hD⟩ := va_join (wr := [(h0, .inr (0, [.ref aR, .ref aC, .int (pz_o (pz_rb x)), .int (pz_b (pz_dd x)), .int (nI (pz_th x))])), (aC, .inl (cJ, 16, .inr (.inl (pz_rc x))))]) hP hD [1] [0, 2] rfl rfl (by decide) (by decide) hk1 hFc hP1 hD1
  obtain ⟨hP, hD⟩ := (show va_P (dC, dI) vwCl [(h0, .inr (0, [.ref aR, .ref aC, .int (pz_o (pz_rb x)), .int (pz_b (pz_dd x)), .int (nI (pz_th x))])), (aR, .inl (cJ, 2400, .inr (.inl u))), (aC, .inl (cJ, 16, .inr (.inl (pz_rc x))))] H1 ∧ va_D A [(h0, .inr (0, [.ref aR, .ref aC, .int (pz_o (pz_rb x)), .int (pz_b (pz_dd x)), .int (nI (pz_th x))])), (aR, .inl (cJ, 2400, .inr (.inl u))), (aC, .inl (cJ, 16, .inr (.inl (pz_rc x))))] from ⟨hP.sub [0, 2, 1] rfl, hD.sub [0, 2, 1] (by decide) rfl⟩)
  clear hPc hDc hFc hP1 hD1 hK1 hk1 hz ht hvm
  generalize H1 = H at hP hS ⊢
  refine lv_aload_n hx hb dXD_loseAll_8 rfl (lv_at hl 0 rfl) ?_
  refine lv_iconst (v := (-1)) hx hb dXD_loseAll_9 (by decide) ?_
  refine va_put (D := (dC, dI)) (ci := 0) (v := .int (-1)) (ty := .int) (C := "ParityArray$Disk") (T := TXD) (N := 5) hx hb hts (fun w h => List.mem_cons_of_mem _ (inXD w h)) tyXD tyXD_ok nmXD hown hK hP hD hS 0 rfl rfl 2 (by decide) (hts _ (List.mem_cons_of_mem _ tw_62)) (fun _ h9 => h9) rfl (by decide +kernel) rfl rfl (Nat.le_of_ble_eq_true rfl) dXD_loseAll_10 (fun H locs hP hD hS => ?_)
  have hP : va_P (dC, dI) vwCl [(h0, .inr (0, [.ref aR, .ref aC, .int (-1), .int (pz_b (pz_dd x)), .int (nI (pz_th x))])), (aR, .inl (cJ, 2400, .inr (.inl u))), (aC, .inl (cJ, 16, .inr (.inl (pz_rc x))))] H := hP
  have hD : va_D A [(h0, .inr (0, [.ref aR, .ref aC, .int (-1), .int (pz_b (pz_dd x)), .int (nI (pz_th x))])), (aR, .inl (cJ, 2400, .inr (.inl u))), (aC, .inl (cJ, 16, .inr (.inl (pz_rc x))))] := hD
  refine lv_aload_n hx hb dXD_loseAll_13 rfl (lv_at hl 0 rfl) ?_
  refine lv_iconst (v := nI 1) hx hb dXD_loseAll_14 (by decide) ?_
  refine va_put (D := (dC, dI)) (ci := 0) (v := .int (nI 1)) (ty := .boolean) (C := "ParityArray$Disk") (T := TXD) (N := 5) hx hb hts (fun w h => List.mem_cons_of_mem _ (inXD w h)) tyXD tyXD_ok nmXD hown hK hP hD hS 0 rfl rfl 3 (by decide) (hts _ (List.mem_cons_of_mem _ tw_64)) (fun _ h9 => h9) rfl (by decide +kernel) rfl rfl (Nat.le_of_ble_eq_true rfl) dXD_loseAll_15 (fun H locs hP hD hS => ?_)
  have hP : va_P (dC, dI) vwCl [(h0, .inr (0, [.ref aR, .ref aC, .int (-1), .int (pz_b true), .int (nI (pz_th x))])), (aR, .inl (cJ, 2400, .inr (.inl u))), (aC, .inl (cJ, 16, .inr (.inl (pz_rc x))))] H := hP
  have hD : va_D A [(h0, .inr (0, [.ref aR, .ref aC, .int (-1), .int (pz_b true), .int (nI (pz_th x))])), (aR, .inl (cJ, 2400, .inr (.inl u))), (aC, .inl (cJ, 16, .inr (.inl (pz_rc x))))] := hD
  refine lv_aload_n hx hb dXD_loseAll_18 rfl (lv_at hl 0 rfl) ?_
  refine lv_iconst (v := nI 0) hx hb dXD_loseAll_19 (by decide) ?_
  refine va_put (D := (dC, dI)) (ci := 0) (v := .int (nI 0)) (ty := .int) (C := "ParityArray$Disk") (T := TXD) (N := 5) hx hb hts (fun w h => List.mem_cons_of_mem _ (inXD w h)) tyXD tyXD_ok nmXD hown hK hP hD hS 0 rfl rfl 4 (by decide) (hts _ (List.mem_cons_of_mem _ tw_66)) (fun _ h9 => h9) rfl (by decide +kernel) rfl rfl (Nat.le_of_ble_eq_true rfl) dXD_loseAll_20 (fun H locs hP hD hS => ?_)
  have hP : va_P (dC, dI) vwCl [(h0, .inr (0, [.ref aR, .ref aC, .int (-1), .int (pz_b true), .int (nI 0)])), (aR, .inl (cJ, 2400, .inr (.inl u))), (aC, .inl (cJ, 16, .inr (.inl (pz_rc x))))] H := hP
  have hD : va_D A [(h0, .inr (0, [.ref aR, .ref aC, .int (-1), .int (pz_b true), .int (nI 0)])), (aR, .inl (cJ, 2400, .inr (.inl u))), (aC, .inl (cJ, 16, .inr (.inl (pz_rc x))))] := hD
  exact W.vret hx hb hr (fun t ht hW => ⟨⟨(u, pz_rc x, none, true, 0), rfl, ⟨u, rfl⟩, by rw [ht]; exact hP, va_K.moved hW.alike hK, hAe ▸ hD⟩, hS.F ht⟩) hS.2.2 dXD_loseAll_23

set_option maxHeartbeats 4000000 in
set_option maxRecDepth 100000 in
theorem c_XS_init (l : Launch) (dC : Nat → ClassId) (dI : Nat → Nat → Nat) (sz : Nat) (h0 : Nat) : Met l yXS_init wsXS_init ({ frames := 1, cells := 0, slots := 0, locals := 20 }) (va_Pc [.ref h0] (fun U => U.heap.size = sz ∧ va_P (dC, dI) vwCl (pz_SW h0 (false, false, false, 0, 0, false, 0)) U.heap ∧ va_K (dC, dI) vwCl [] U ∧ va_D (fun _ => True) (pz_SW h0 (false, false, false, 0, 0, false, 0)))) (va_Qv (fun (u : pz_Su) => u = (true, false, false, 0, 0, false, 0)) (fun u t => va_P (dC, dI) vwCl (pz_SW h0 u) t.heap ∧ va_K (dC, dI) vwCl [] t ∧ va_D (va_A (pz_SW h0 (false, false, false, 0, 0, false, 0)) sz) (pz_SW h0 u)) (va_A (pz_SW h0 (false, false, false, 0, 0, false, 0)) sz)) 0 0 (va_A (pz_SW h0 (false, false, false, 0, 0, false, 0)) sz) := by
  refine Met.ofW (cc := cXS_init) (maxL := 1) (ret := none) (by decide) rfl ?_
  intro p e s m args below meth c s₁ B hml hv
  obtain ⟨rfl, hsz, hP, hK, hD0⟩ := hv
  have hx := B.exec
  have hb := B.bytes
  have hr := B.returns
  have hts := atoms_spec (ws := wsXS_init) B.pre
  have hown : s.vm.findClass "ParityArray$Supply" = some m.cls := findClass_of_methodNamed B.named
  have hlocks := B.notSynchronized
  have hin : meth.name = "<init>" := (name_of_methodNamed B.named B.method).1
  subst hsz
  have hD := hD0.self (sz := s.heap.size)
  generalize hAe : va_A (pz_SW h0 (false, false, false, 0, 0, false, 0)) s.heap.size = A at hD ⊢
  have hA : ∀ q : Nat, s.heap.size ≤ q → A q := fun q h => by rw [← hAe]; exact Or.inr h
  have hS : va_S A s.heap s.heap [] := va_S.rf
  have hl := lv_entry ([.ref h0]) (n := 1) (Nat.le_of_ble_eq_true rfl)
  rw [lg_entry_eq]
  generalize (lg_sl ([.ref h0]) ++ List.replicate (1 - (lg_sl ([.ref h0])).length) Slot.unset).toArray = ls at hl ⊢
  have hl : lv_has ls 1 [(0, .ref h0)] := hl
  have hP : va_P (dC, dI) vwCl [(h0, .inr (1, [.int (pz_b false), .int (pz_b false), .int (pz_b false), .int (nI 0), .int (nI 0), .int (pz_b false), .int (nI 0)]))] s.heap := hP
  have hD : va_D A [(h0, .inr (1, [.int (pz_b false), .int (pz_b false), .int (pz_b false), .int (nI 0), .int (nI 0), .int (pz_b false), .int (nI 0)]))] := hD
  refine lv_aload_n hx hb dXS_init_0 rfl (lv_at hl 0 rfl) ?_
  refine W.objInit hx hb hown (hts _ (List.mem_cons_of_mem _ tw_30)) (hts _ (List.mem_cons_of_mem _ tw_21)) (hts _ (List.mem_cons_of_mem _ tw_22)) rfl (by rw [hml]; exact hl.1) rfl dXS_init_1 (Nat.le_of_ble_eq_true rfl) (Nat.le_of_ble_eq_true rfl) ?_
  refine W.eq (g2 := F0 m 4 ls []) rfl ?_
  refine lv_aload_n hx hb dXS_init_4 rfl (lv_at hl 0 rfl) ?_
  refine lv_iconst (v := nI 1) hx hb dXS_init_5 (by decide) ?_
  refine va_put (D := (dC, dI)) (ci := 1) (v := .int (nI 1)) (ty := .boolean) (C := "ParityArray$Supply") (T := TXS) (N := 7) hx hb hts (fun w h => List.mem_cons_of_mem _ (inXS w h)) tyXS tyXS_ok nmXS hown hK hP hD hS 0 rfl rfl 0 (by decide) (hts _ (List.mem_cons_of_mem _ tw_31)) (fun _ h9 => h9) rfl (by decide +kernel) rfl rfl (Nat.le_of_ble_eq_true rfl) dXS_init_6 (fun H locs hP hD hS => ?_)
  have hP : va_P (dC, dI) vwCl [(h0, .inr (1, [.int (pz_b true), .int (pz_b false), .int (pz_b false), .int (nI 0), .int (nI 0), .int (pz_b false), .int (nI 0)]))] H := hP
  have hD : va_D A [(h0, .inr (1, [.int (pz_b true), .int (pz_b false), .int (pz_b false), .int (nI 0), .int (nI 0), .int (pz_b false), .int (nI 0)]))] := hD
  refine lv_aload_n hx hb dXS_init_9 rfl (lv_at hl 0 rfl) ?_
  refine lv_iconst (v := nI 0) hx hb dXS_init_10 (by decide) ?_
  refine va_put (D := (dC, dI)) (ci := 1) (v := .int (nI 0)) (ty := .boolean) (C := "ParityArray$Supply") (T := TXS) (N := 7) hx hb hts (fun w h => List.mem_cons_of_mem _ (inXS w h)) tyXS tyXS_ok nmXS hown hK hP hD hS 0 rfl rfl 1 (by decide) (hts _ (List.mem_cons_of_mem _ tw_33)) (fun _ h9 => h9) rfl (by decide +kernel) rfl rfl (Nat.le_of_ble_eq_true rfl) dXS_init_11 (fun H locs hP hD hS => ?_)
  have hP : va_P (dC, dI) vwCl [(h0, .inr (1, [.int (pz_b true), .int (pz_b false), .int (pz_b false), .int (nI 0), .int (nI 0), .int (pz_b false), .int (nI 0)]))] H := hP
  have hD : va_D A [(h0, .inr (1, [.int (pz_b true), .int (pz_b false), .int (pz_b false), .int (nI 0), .int (nI 0), .int (pz_b false), .int (nI 0)]))] := hD
  refine lv_aload_n hx hb dXS_init_14 rfl (lv_at hl 0 rfl) ?_
  refine lv_iconst (v := nI 0) hx hb dXS_init_15 (by decide) ?_
  refine va_put (D := (dC, dI)) (ci := 1) (v := .int (nI 0)) (ty := .boolean) (C := "ParityArray$Supply") (T := TXS) (N := 7) hx hb hts (fun w h => List.mem_cons_of_mem _ (inXS w h)) tyXS tyXS_ok nmXS hown hK hP hD hS 0 rfl rfl 2 (by decide) (hts _ (List.mem_cons_of_mem _ tw_34)) (fun _ h9 => h9) rfl (by decide +kernel) rfl rfl (Nat.le_of_ble_eq_true rfl) dXS_init_16 (fun H locs hP hD hS => ?_)
  have hP : va_P (dC, dI) vwCl [(h0, .inr (1, [.int (pz_b true), .int (pz_b false), .int (pz_b false), .int (nI 0), .int (nI 0), .int (pz_b false), .int (nI 0)]))] H := hP
  have hD : va_D A [(h0, .inr (1, [.int (pz_b true), .int (pz_b false), .int (pz_b false), .int (nI 0), .int (nI 0), .int (pz_b false), .int (nI 0)]))] := hD
  refine lv_aload_n hx hb dXS_init_19 rfl (lv_at hl 0 rfl) ?_
  refine lv_iconst (v := nI 0) hx hb dXS_init_20 (by decide) ?_
  refine va_put (D := (dC, dI)) (ci := 1) (v := .int (nI 0)) (ty := .int) (C := "ParityArray$Supply") (T := TXS) (N := 7) hx hb hts (fun w h => List.mem_cons_of_mem _ (inXS w h)) tyXS tyXS_ok nmXS hown hK hP hD hS 0 rfl rfl 3 (by decide) (hts _ (List.mem_cons_of_mem _ tw_35)) (fun _ h9 => h9) rfl (by decide +kernel) rfl rfl (Nat.le_of_ble_eq_true rfl) dXS_init_21 (fun H locs hP hD hS => ?_)
  have hP : va_P (dC, dI) vwCl [(h0, .inr (1, [.int (pz_b true), .int (pz_b false), .int (pz_b false), .int (nI 0), .int (nI 0), .int (pz_b false), .int (nI 0)]))] H := hP
  have hD : va_D A [(h0, .inr (1, [.int (pz_b true), .int (pz_b false), .int (pz_b false), .int (nI 0), .int (nI 0), .int (pz_b false), .int (nI 0)]))] := hD
  refine lv_aload_n hx hb dXS_init_24 rfl (lv_at hl 0 rfl) ?_
  refine lv_iconst (v := nI 0) hx hb dXS_init_25 (by decide) ?_
  refine va_put (D := (dC, dI)) (ci := 1) (v := .int (nI 0)) (ty := .int) (C := "ParityArray$Supply") (T := TXS) (N := 7) hx hb hts (fun w h => List.mem_cons_of_mem _ (inXS w h)) tyXS tyXS_ok nmXS hown hK hP hD hS 0 rfl rfl 4 (by decide) (hts _ (List.mem_cons_of_mem _ tw_36)) (fun _ h9 => h9) rfl (by decide +kernel) rfl rfl (Nat.le_of_ble_eq_true rfl) dXS_init_26 (fun H locs hP hD hS => ?_)
  have hP : va_P (dC, dI) vwCl [(h0, .inr (1, [.int (pz_b true), .int (pz_b false), .int (pz_b false), .int (nI 0), .int (nI 0), .int (pz_b false), .int (nI 0)]))] H := hP
  have hD : va_D A [(h0, .inr (1, [.int (pz_b true), .int (pz_b false), .int (pz_b false), .int (nI 0), .int (nI 0), .int (pz_b false), .int (nI 0)]))] := hD
  refine lv_aload_n hx hb dXS_init_29 rfl (lv_at hl 0 rfl) ?_
  refine lv_iconst (v := nI 0) hx hb dXS_init_30 (by decide) ?_
  refine va_put (D := (dC, dI)) (ci := 1) (v := .int (nI 0)) (ty := .boolean) (C := "ParityArray$Supply") (T := TXS) (N := 7) hx hb hts (fun w h => List.mem_cons_of_mem _ (inXS w h)) tyXS tyXS_ok nmXS hown hK hP hD hS 0 rfl rfl 5 (by decide) (hts _ (List.mem_cons_of_mem _ tw_37)) (fun _ h9 => h9) rfl (by decide +kernel) rfl rfl (Nat.le_of_ble_eq_true rfl) dXS_init_31 (fun H locs hP hD hS => ?_)
  have hP : va_P (dC, dI) vwCl [(h0, .inr (1, [.int (pz_b true), .int (pz_b false), .int (pz_b false), .int (nI 0), .int (nI 0), .int (pz_b false), .int (nI 0)]))] H := hP
  have hD : va_D A [(h0, .inr (1, [.int (pz_b true), .int (pz_b false), .int (pz_b false), .int (nI 0), .int (nI 0), .int (pz_b false), .int (nI 0)]))] := hD
  refine lv_aload_n hx hb dXS_init_34 rfl (lv_at hl 0 rfl) ?_
  refine lv_iconst (v := nI 0) hx hb dXS_init_35 (by decide) ?_
  refine va_put (D := (dC, dI)) (ci := 1) (v := .int (nI 0)) (ty := .int) (C := "ParityArray$Supply") (T := TXS) (N := 7) hx hb hts (fun w h => List.mem_cons_of_mem _ (inXS w h)) tyXS tyXS_ok nmXS hown hK hP hD hS 0 rfl rfl 6 (by decide) (hts _ (List.mem_cons_of_mem _ tw_38)) (fun _ h9 => h9) rfl (by decide +kernel) rfl rfl (Nat.le_of_ble_eq_true rfl) dXS_init_36 (fun H locs hP hD hS => ?_)
  have hP : va_P (dC, dI) vwCl [(h0, .inr (1, [.int (pz_b true), .int (pz_b false), .int (pz_b false), .int (nI 0), .int (nI 0), .int (pz_b false), .int (nI 0)]))] H := hP
  have hD : va_D A [(h0, .inr (1, [.int (pz_b true), .int (pz_b false), .int (pz_b false), .int (nI 0), .int (nI 0), .int (pz_b false), .int (nI 0)]))] := hD
  exact W.vret hx hb hr (fun t ht hW => ⟨⟨(true, false, false, 0, 0, false, 0), rfl, rfl, by rw [ht]; exact hP, va_K.moved hW.alike hK, hAe ▸ hD⟩, hS.F ht⟩) hS.2.2 dXS_init_39

set_option maxHeartbeats 4000000 in
set_option maxRecDepth 100000 in
theorem c_XD_init (l : Launch) (dC : Nat → ClassId) (dI : Nat → Nat → Nat) (sz : Nat) (h0 : Nat) (cJ : ClassId) : Met l yXD_init wsXD_init ({ frames := 1, cells := 2, slots := 2416, locals := 20 }) (va_Pc [.ref h0] (fun U => U.heap.size = sz ∧ va_P (dC, dI) vwCl [(h0, .inr (0, [.null, .null, .int (nI 0), .int (pz_b false), .int (nI 0)]))] U.heap ∧ va_K (dC, dI) vwCl [(cJ, .long)] U ∧ va_D (fun _ => True) [(h0, .inr (0, [.null, .null, .int (nI 0), .int (pz_b false), .int (nI 0)]))])) (va_Qv (fun (u : Nat × Nat × Nat) => u.1 = h0) (fun u t => va_P (dC, dI) vwCl (pz_DW u.1 u.2.1 u.2.2 cJ (fun _ => 0, fun _ => 0, none, false, 150)) t.heap ∧ va_K (dC, dI) vwCl [(cJ, .long)] t ∧ va_D (va_A [(h0, .inr (0, [.null, .null, .int (nI 0), .int (pz_b false), .int (nI 0)]))] sz) (pz_DW u.1 u.2.1 u.2.2 cJ (fun _ => 0, fun _ => 0, none, false, 150))) (va_A [(h0, .inr (0, [.null, .null, .int (nI 0), .int (pz_b false), .int (nI 0)]))] sz)) 2 2416 (va_A [(h0, .inr (0, [.null, .null, .int (nI 0), .int (pz_b false), .int (nI 0)]))] sz) := by
  refine Met.ofW (cc := cXD_init) (maxL := 1) (ret := none) (by decide) rfl ?_
  intro p e s m args below meth c s₁ B hml hv
  obtain ⟨rfl, hsz, hP, hK, hD0⟩ := hv
  have hx := B.exec
  have hb := B.bytes
  have hr := B.returns
  have hts := atoms_spec (ws := wsXD_init) B.pre
  have hown : s.vm.findClass "ParityArray$Disk" = some m.cls := findClass_of_methodNamed B.named
  have hlocks := B.notSynchronized
  have hin : meth.name = "<init>" := (name_of_methodNamed B.named B.method).1
  subst hsz
  have hD := hD0.self (sz := s.heap.size)
  generalize hAe : va_A [(h0, .inr (0, [.null, .null, .int (nI 0), .int (pz_b false), .int (nI 0)]))] s.heap.size = A at hD ⊢
  have hA : ∀ q : Nat, s.heap.size ≤ q → A q := fun q h => by rw [← hAe]; exact Or.inr h
  have hS : va_S A s.heap s.heap [] := va_S.rf
  have hl := lv_entry ([.ref h0]) (n := 1) (Nat.le_of_ble_eq_true rfl)
  rw [lg_entry_eq]
  generalize (lg_sl ([.ref h0]) ++ List.replicate (1 - (lg_sl ([.ref h0])).length) Slot.unset).toArray = ls at hl ⊢
  have hl : lv_has ls 1 [(0, .ref h0)] := hl
  have hP : va_P (dC, dI) vwCl [(h0, .inr (0, [.null, .null, .int (nI 0), .int (pz_b false), .int (nI 0)]))] s.heap := hP
  have hD : va_D A [(h0, .inr (0, [.null, .null, .int (nI 0), .int (pz_b false), .int (nI 0)]))] := hD
  refine lv_aload_n hx hb dXD_init_0 rfl (lv_at hl 0 rfl) ?_
  refine W.objInit hx hb hown (hts _ (List.mem_cons_of_mem _ tw_58)) (hts _ (List.mem_cons_of_mem _ tw_21)) (hts _ (List.mem_cons_of_mem _ tw_22)) rfl (by rw [hml]; exact hl.1) rfl dXD_init_1 (Nat.le_of_ble_eq_true rfl) (Nat.le_of_ble_eq_true rfl) ?_
  refine W.eq (g2 := F0 m 4 ls []) rfl ?_
  refine lv_aload_n hx hb dXD_init_4 rfl (lv_at hl 0 rfl) ?_
  refine lv_sipush (v := nI 2400) hx hb dXD_init_5 (by decide) ?_
  refine va_newa (atype := .long) (ty := .long) (N' := 2400) (a0 := (2400, .inr (.inl (fun _ => 0)))) hx hb (hts _ (List.mem_cons_of_mem _ tw_79)) rfl hK hP hD hS hA (fun _ => rfl) (nI_pos (by decide)) (nI_clamp (by decide)) (by decide) (Nat.le_of_ble_eq_true rfl) (Nat.le_of_ble_eq_true rfl) dXD_init_8 (fun q1 c1 H hK hP hD hS => ?_)
  have hK : va_K (dC, dI) vwCl [(cJ, .long), (c1, .long)] s := hK
  obtain rfl := pz_sameJ hK (i := 0) (j := 1) rfl rfl
  have hK : va_K (dC, dI) vwCl [(cJ, .long)] s := hK.sub [0] rfl
  have hP : va_P (dC, dI) vwCl [(h0, .inr (0, [.null, .null, .int (nI 0), .int (pz_b false), .int (nI 0)])), (q1, .inl (cJ, 2400, .inr (.inl (fun _ => 0))))] H := hP
  have hD : va_D A [(h0, .inr (0, [.null, .null, .int (nI 0), .int (pz_b false), .int (nI 0)])), (q1, .inl (cJ, 2400, .inr (.inl (fun _ => 0))))] := hD
  refine W.widen (k := 1) (n := 2400) (Nat.le_of_ble_eq_true rfl) (Nat.le_of_ble_eq_true rfl) ?_
  refine va_putF (D := (dC, dI)) (ci := 0) (v := .ref q1) (ty := .array .long) (C := "ParityArray$Disk") (T := TXD) (N := 5) hx hb hts (fun w h => List.mem_cons_of_mem _ (inXD w h)) tyXD tyXD_ok nmXD hown hK hP hD hS 0 rfl rfl 0 (by decide) (hts _ (List.mem_cons_of_mem _ tw_59)) (fun _ h9 => h9) rfl hin rfl (by decide +kernel) rfl rfl (Nat.le_of_ble_eq_true rfl) dXD_init_10 (fun H locs hP hD hS => ?_)
  have hP : va_P (dC, dI) vwCl [(h0, .inr (0, [.ref q1, .null, .int (nI 0), .int (pz_b false), .int (nI 0)])), (q1, .inl (cJ, 2400, .inr (.inl (fun _ => 0))))] H := hP
  have hD : va_D A [(h0, .inr (0, [.ref q1, .null, .int (nI 0), .int (pz_b false), .int (nI 0)])), (q1, .inl (cJ, 2400, .inr (.inl (fun _ => 0))))] := hD
  refine lv_aload_n hx hb dXD_init_13 rfl (lv_at hl 0 rfl) ?_
  refine lv_bipush (v := nI 16) hx hb dXD_init_14 (by decide) ?_
  refine va_newa (atype := .long) (ty := .long) (N' := 16) (a0 := (16, .inr (.inl (fun _ => 0)))) hx hb (hts _ (List.mem_cons_of_mem _ tw_79)) rfl hK hP hD hS hA (fun _ => rfl) (nI_pos (by decide)) (nI_clamp (by decide)) (by decide) (Nat.le_of_ble_eq_true rfl) (Nat.le_of_ble_eq_true rfl) dXD_init_16 (fun q2 c2 H hK hP hD hS => ?_)
  have hK : va_K (dC, dI) vwCl [(cJ, .long), (c2, .long)] s := hK
  obtain rfl := pz_sameJ hK (i := 0) (j := 1) rfl rfl
  have hK : va_K (dC, dI) vwCl [(cJ, .long)] s := hK.sub [0] rfl
  have hP : va_P (dC, dI) vwCl [(h0, .inr (0, [.ref q1, .null, .int (nI 0), .int (pz_b false), .int (nI 0)])), (q1, .inl (cJ, 2400, .inr (.inl (fun _ => 0)))), (q2, .inl (cJ, 16, .inr (.inl (fun _ => 0))))] H := hP
  have hD : va_D A [(h0, .inr (0, [.ref q1, .null, .int (nI 0), .int (pz_b false), .int (nI 0)])), (q1, .inl (cJ, 2400, .inr (.inl (fun _ => 0)))), (q2, .inl (cJ, 16, .inr (.inl (fun _ => 0))))] := hD
  refine W.widen (k := 2) (n := 2416) (Nat.le_of_ble_eq_true rfl) (Nat.le_of_ble_eq_true rfl) ?_
  refine va_putF (D := (dC, dI)) (ci := 0) (v := .ref q2) (ty := .array .long) (C := "ParityArray$Disk") (T := TXD) (N := 5) hx hb hts (fun w h => List.mem_cons_of_mem _ (inXD w h)) tyXD tyXD_ok nmXD hown hK hP hD hS 0 rfl rfl 1 (by decide) (hts _ (List.mem_cons_of_mem _ tw_60)) (fun _ h9 => h9) rfl hin rfl (by decide +kernel) rfl rfl (Nat.le_of_ble_eq_true rfl) dXD_init_18 (fun H locs hP hD hS => ?_)
  have hP : va_P (dC, dI) vwCl [(h0, .inr (0, [.ref q1, .ref q2, .int (nI 0), .int (pz_b false), .int (nI 0)])), (q1, .inl (cJ, 2400, .inr (.inl (fun _ => 0)))), (q2, .inl (cJ, 16, .inr (.inl (fun _ => 0))))] H := hP
  have hD : va_D A [(h0, .inr (0, [.ref q1, .ref q2, .int (nI 0), .int (pz_b false), .int (nI 0)])), (q1, .inl (cJ, 2400, .inr (.inl (fun _ => 0)))), (q2, .inl (cJ, 16, .inr (.inl (fun _ => 0))))] := hD
  refine lv_aload_n hx hb dXD_init_21 rfl (lv_at hl 0 rfl) ?_
  refine lv_iconst (v := (-1)) hx hb dXD_init_22 (by decide) ?_
  refine va_put (D := (dC, dI)) (ci := 0) (v := .int (-1)) (ty := .int) (C := "ParityArray$Disk") (T := TXD) (N := 5) hx hb hts (fun w h => List.mem_cons_of_mem _ (inXD w h)) tyXD tyXD_ok nmXD hown hK hP hD hS 0 rfl rfl 2 (by decide) (hts _ (List.mem_cons_of_mem _ tw_62)) (fun _ h9 => h9) rfl (by decide +kernel) rfl rfl (Nat.le_of_ble_eq_true rfl) dXD_init_23 (fun H locs hP hD hS => ?_)
  have hP : va_P (dC, dI) vwCl [(h0, .inr (0, [.ref q1, .ref q2, .int (-1), .int (pz_b false), .int (nI 0)])), (q1, .inl (cJ, 2400, .inr (.inl (fun _ => 0)))), (q2, .inl (cJ, 16, .inr (.inl (fun _ => 0))))] H := hP
  have hD : va_D A [(h0, .inr (0, [.ref q1, .ref q2, .int (-1), .int (pz_b false), .int (nI 0)])), (q1, .inl (cJ, 2400, .inr (.inl (fun _ => 0)))), (q2, .inl (cJ, 16, .inr (.inl (fun _ => 0))))] := hD
  refine lv_aload_n hx hb dXD_init_26 rfl (lv_at hl 0 rfl) ?_
  refine lv_iconst (v := nI 0) hx hb dXD_init_27 (by decide) ?_
  refine va_put (D := (dC, dI)) (ci := 0) (v := .int (nI 0)) (ty := .boolean) (C := "ParityArray$Disk") (T := TXD) (N := 5) hx hb hts (fun w h => List.mem_cons_of_mem _ (inXD w h)) tyXD tyXD_ok nmXD hown hK hP hD hS 0 rfl rfl 3 (by decide) (hts _ (List.mem_cons_of_mem _ tw_64)) (fun _ h9 => h9) rfl (by decide +kernel) rfl rfl (Nat.le_of_ble_eq_true rfl) dXD_init_28 (fun H locs hP hD hS => ?_)
  have hP : va_P (dC, dI) vwCl [(h0, .inr (0, [.ref q1, .ref q2, .int (-1), .int (pz_b false), .int (nI 0)])), (q1, .inl (cJ, 2400, .inr (.inl (fun _ => 0)))), (q2, .inl (cJ, 16, .inr (.inl (fun _ => 0))))] H := hP
  have hD : va_D A [(h0, .inr (0, [.ref q1, .ref q2, .int (-1), .int (pz_b false), .int (nI 0)])), (q1, .inl (cJ, 2400, .inr (.inl (fun _ => 0)))), (q2, .inl (cJ, 16, .inr (.inl (fun _ => 0))))] := hD
  refine lv_aload_n hx hb dXD_init_31 rfl (lv_at hl 0 rfl) ?_
  refine lv_sipush (v := nI 150) hx hb dXD_init_32 (by decide) ?_
  refine va_put (D := (dC, dI)) (ci := 0) (v := .int (nI 150)) (ty := .int) (C := "ParityArray$Disk") (T := TXD) (N := 5) hx hb hts (fun w h => List.mem_cons_of_mem _ (inXD w h)) tyXD tyXD_ok nmXD hown hK hP hD hS 0 rfl rfl 4 (by decide) (hts _ (List.mem_cons_of_mem _ tw_66)) (fun _ h9 => h9) rfl (by decide +kernel) rfl rfl (Nat.le_of_ble_eq_true rfl) dXD_init_35 (fun H locs hP hD hS => ?_)
  have hP : va_P (dC, dI) vwCl [(h0, .inr (0, [.ref q1, .ref q2, .int (-1), .int (pz_b false), .int (nI 150)])), (q1, .inl (cJ, 2400, .inr (.inl (fun _ => 0)))), (q2, .inl (cJ, 16, .inr (.inl (fun _ => 0))))] H := hP
  have hD : va_D A [(h0, .inr (0, [.ref q1, .ref q2, .int (-1), .int (pz_b false), .int (nI 150)])), (q1, .inl (cJ, 2400, .inr (.inl (fun _ => 0)))), (q2, .inl (cJ, 16, .inr (.inl (fun _ => 0))))] := hD
  exact W.vret hx hb hr (fun t ht hW => ⟨⟨(h0, q1, q2), rfl, rfl, by rw [ht]; exact hP, va_K.moved hW.alike hK, hAe ▸ hD⟩, hS.F ht⟩) hS.2.2 dXD_init_38

set_option maxHeartbeats 4000000 in
set_option maxRecDepth 100000 in
theorem c_XM_init (l : Launch) (dC : Nat → ClassId) (dI : Nat → Nat → Nat) (sz : Nat) (h0 : Nat) : Met l yXM_init wsXM_init ({ frames := 1, cells := 1, slots := 76800, locals := 20 }) (va_Pc [.ref h0] (fun U => U.heap.size = sz ∧ va_P (dC, dI) vwCl [(h0, .inr (3, [.null, .int (pz_b false), .int (nI 0), .int (pz_b false), .int (nI 0), .int (nI 0), .int (nI 0), .int (nI 0), .int (nI 0)]))] U.heap ∧ va_K (dC, dI) vwCl [] U ∧ va_D (fun _ => True) [(h0, .inr (3, [.null, .int (pz_b false), .int (nI 0), .int (pz_b false), .int (nI 0), .int (nI 0), .int (nI 0), .int (nI 0), .int (nI 0)]))])) (va_Qv (fun (u : Nat × ClassId) => True) (fun u t => va_P (dC, dI) vwCl (pz_MW h0 u.1 u.2 (fun _ => 0) (fun _ => 0, true, none, false, 0, 0, 0, 0) 0) t.heap ∧ va_K (dC, dI) vwCl [(u.2, .byte)] t ∧ va_D (va_A [(h0, .inr (3, [.null, .int (pz_b false), .int (nI 0), .int (pz_b false), .int (nI 0), .int (nI 0), .int (nI 0), .int (nI 0), .int (nI 0)]))] sz) (pz_MW h0 u.1 u.2 (fun _ => 0) (fun _ => 0, true, none, false, 0, 0, 0, 0) 0)) (va_A [(h0, .inr (3, [.null, .int (pz_b false), .int (nI 0), .int (pz_b false), .int (nI 0), .int (nI 0), .int (nI 0), .int (nI 0), .int (nI 0)]))] sz)) 1 76800 (va_A [(h0, .inr (3, [.null, .int (pz_b false), .int (nI 0), .int (pz_b false), .int (nI 0), .int (nI 0), .int (nI 0), .int (nI 0), .int (nI 0)]))] sz) := by
  refine Met.ofW (cc := cXM_init) (maxL := 1) (ret := none) (by decide) rfl ?_
  intro p e s m args below meth c s₁ B hml hv
  obtain ⟨rfl, hsz, hP, hK, hD0⟩ := hv
  have hx := B.exec
  have hb := B.bytes
  have hr := B.returns
  have hts := atoms_spec (ws := wsXM_init) B.pre
  have hown : s.vm.findClass "ParityArrayModel" = some m.cls := findClass_of_methodNamed B.named
  have hlocks := B.notSynchronized
  have hin : meth.name = "<init>" := (name_of_methodNamed B.named B.method).1
  subst hsz
  have hD := hD0.self (sz := s.heap.size)
  generalize hAe : va_A [(h0, .inr (3, [.null, .int (pz_b false), .int (nI 0), .int (pz_b false), .int (nI 0), .int (nI 0), .int (nI 0), .int (nI 0), .int (nI 0)]))] s.heap.size = A at hD ⊢
  have hA : ∀ q : Nat, s.heap.size ≤ q → A q := fun q h => by rw [← hAe]; exact Or.inr h
  have hS : va_S A s.heap s.heap [] := va_S.rf
  have hl := lv_entry ([.ref h0]) (n := 1) (Nat.le_of_ble_eq_true rfl)
  rw [lg_entry_eq]
  generalize (lg_sl ([.ref h0]) ++ List.replicate (1 - (lg_sl ([.ref h0])).length) Slot.unset).toArray = ls at hl ⊢
  have hl : lv_has ls 1 [(0, .ref h0)] := hl
  have hP : va_P (dC, dI) vwCl [(h0, .inr (3, [.null, .int (pz_b false), .int (nI 0), .int (pz_b false), .int (nI 0), .int (nI 0), .int (nI 0), .int (nI 0), .int (nI 0)]))] s.heap := hP
  have hD : va_D A [(h0, .inr (3, [.null, .int (pz_b false), .int (nI 0), .int (pz_b false), .int (nI 0), .int (nI 0), .int (nI 0), .int (nI 0), .int (nI 0)]))] := hD
  refine lv_aload_n hx hb dXM_init_0 rfl (lv_at hl 0 rfl) ?_
  refine W.objInit hx hb hown (hts _ (List.mem_cons_of_mem _ tw_389)) (hts _ (List.mem_cons_of_mem _ tw_21)) (hts _ (List.mem_cons_of_mem _ tw_22)) rfl (by rw [hml]; exact hl.1) rfl dXM_init_1 (Nat.le_of_ble_eq_true rfl) (Nat.le_of_ble_eq_true rfl) ?_
  refine W.eq (g2 := F0 m 4 ls []) rfl ?_
  refine lv_aload_n hx hb dXM_init_4 rfl (lv_at hl 0 rfl) ?_
  refine lv_ldc (v := nI 76800) hx hb hown (hts _ (List.mem_cons_of_mem _ tw_390)) dXM_init_5 ?_
  refine va_newa (atype := .byte) (ty := .byte) (N' := 76800) (a0 := (76800, .inl (fun _ => 0))) hx hb (hts _ (List.mem_cons_of_mem _ tw_174)) rfl hK hP hD hS hA (fun _ => rfl) (nI_pos (by decide)) (nI_clamp (by decide)) (by decide) (Nat.le_of_ble_eq_true rfl) (Nat.le_of_ble_eq_true rfl) dXM_init_7 (fun q1 c1 H hK hP hD hS => ?_)
  have hK : va_K (dC, dI) vwCl [(c1, .byte)] s := hK
  have hP : va_P (dC, dI) vwCl [(h0, .inr (3, [.null, .int (pz_b false), .int (nI 0), .int (pz_b false), .int (nI 0), .int (nI 0), .int (nI 0), .int (nI 0), .int (nI 0)])), (q1, .inl (c1, 76800, .inl (fun _ => 0)))] H := hP
  have hD : va_D A [(h0, .inr (3, [.null, .int (pz_b false), .int (nI 0), .int (pz_b false), .int (nI 0), .int (nI 0), .int (nI 0), .int (nI 0), .int (nI 0)])), (q1, .inl (c1, 76800, .inl (fun _ => 0)))] := hD
  refine W.widen (k := 1) (n := 76800) (Nat.le_of_ble_eq_true rfl) (Nat.le_of_ble_eq_true rfl) ?_
  refine va_putF (D := (dC, dI)) (ci := 3) (v := .ref q1) (ty := .array .byte) (C := "ParityArrayModel") (T := TXM) (N := 9) hx hb hts (fun w h => List.mem_cons_of_mem _ (inXM w h)) tyXM tyXM_ok nmXM hown hK hP hD hS 0 rfl rfl 0 (by decide) (hts _ (List.mem_cons_of_mem _ tw_391)) (fun _ h9 => h9) rfl hin rfl (by decide +kernel) rfl rfl (Nat.le_of_ble_eq_true rfl) dXM_init_9 (fun H locs hP hD hS => ?_)
  have hP : va_P (dC, dI) vwCl [(h0, .inr (3, [.ref q1, .int (pz_b false), .int (nI 0), .int (pz_b false), .int (nI 0), .int (nI 0), .int (nI 0), .int (nI 0), .int (nI 0)])), (q1, .inl (c1, 76800, .inl (fun _ => 0)))] H := hP
  have hD : va_D A [(h0, .inr (3, [.ref q1, .int (pz_b false), .int (nI 0), .int (pz_b false), .int (nI 0), .int (nI 0), .int (nI 0), .int (nI 0), .int (nI 0)])), (q1, .inl (c1, 76800, .inl (fun _ => 0)))] := hD
  refine lv_aload_n hx hb dXM_init_12 rfl (lv_at hl 0 rfl) ?_
  refine lv_iconst (v := nI 1) hx hb dXM_init_13 (by decide) ?_
  refine va_put (D := (dC, dI)) (ci := 3) (v := .int (nI 1)) (ty := .boolean) (C := "ParityArrayModel") (T := TXM) (N := 9) hx hb hts (fun w h => List.mem_cons_of_mem _ (inXM w h)) tyXM tyXM_ok nmXM hown hK hP hD hS 0 rfl rfl 1 (by decide) (hts _ (List.mem_cons_of_mem _ tw_392)) (fun _ h9 => h9) rfl (by decide +kernel) rfl rfl (Nat.le_of_ble_eq_true rfl) dXM_init_14 (fun H locs hP hD hS => ?_)
  have hP : va_P (dC, dI) vwCl [(h0, .inr (3, [.ref q1, .int (pz_b true), .int (nI 0), .int (pz_b false), .int (nI 0), .int (nI 0), .int (nI 0), .int (nI 0), .int (nI 0)])), (q1, .inl (c1, 76800, .inl (fun _ => 0)))] H := hP
  have hD : va_D A [(h0, .inr (3, [.ref q1, .int (pz_b true), .int (nI 0), .int (pz_b false), .int (nI 0), .int (nI 0), .int (nI 0), .int (nI 0), .int (nI 0)])), (q1, .inl (c1, 76800, .inl (fun _ => 0)))] := hD
  refine lv_aload_n hx hb dXM_init_17 rfl (lv_at hl 0 rfl) ?_
  refine lv_iconst (v := (-1)) hx hb dXM_init_18 (by decide) ?_
  refine va_put (D := (dC, dI)) (ci := 3) (v := .int (-1)) (ty := .int) (C := "ParityArrayModel") (T := TXM) (N := 9) hx hb hts (fun w h => List.mem_cons_of_mem _ (inXM w h)) tyXM tyXM_ok nmXM hown hK hP hD hS 0 rfl rfl 2 (by decide) (hts _ (List.mem_cons_of_mem _ tw_393)) (fun _ h9 => h9) rfl (by decide +kernel) rfl rfl (Nat.le_of_ble_eq_true rfl) dXM_init_19 (fun H locs hP hD hS => ?_)
  have hP : va_P (dC, dI) vwCl [(h0, .inr (3, [.ref q1, .int (pz_b true), .int (-1), .int (pz_b false), .int (nI 0), .int (nI 0), .int (nI 0), .int (nI 0), .int (nI 0)])), (q1, .inl (c1, 76800, .inl (fun _ => 0)))] H := hP
  have hD : va_D A [(h0, .inr (3, [.ref q1, .int (pz_b true), .int (-1), .int (pz_b false), .int (nI 0), .int (nI 0), .int (nI 0), .int (nI 0), .int (nI 0)])), (q1, .inl (c1, 76800, .inl (fun _ => 0)))] := hD
  exact W.vret hx hb hr (fun t ht hW => ⟨⟨(q1, c1), rfl, trivial, by rw [ht]; exact hP, va_K.moved hW.alike hK, hAe ▸ hD⟩, hS.F ht⟩) hS.2.2 dXM_init_22

set_option maxHeartbeats 4000000 in
set_option maxRecDepth 100000 in
theorem c_XP_isParityRight (l : Launch) (dC : Nat → ClassId) (dI : Nat → Nat → Nat) (a : pz_Ad) (cJ cD : ClassId) (dk : Nat → pz_Dk) (su : pz_Su) (bl pt py : Nat → Int64) (s0 : Nat) (hth : ∀ d, d < 5 → pz_th (dk d) ≤ 150) (hs0 : s0 < 150) (hck : ∀ j, j < 16 → pz_R (dk (s0 % 5)) (16 * s0 + j) = pz_oth (fun e => pz_R (dk e) (16 * s0 + j)) (s0 % 5) 5) : Met l yXP_isParityRight wsXP_isParityRight ({ frames := 2, cells := 0, slots := 0, locals := 48 }) (va_Pc [.ref (pz_ax a), .int (nI s0)] (fun U => va_P (dC, dI) vwCl (pz_XW a cJ cD dk su bl pt py) U.heap ∧ va_K (dC, dI) vwCl [(cJ, .long), (cD, .object "ParityArray$Disk")] U)) (va_Qi (fun (r : Int32) (u : Unit) => r = nI 1) (fun _ _ => True) (fun _ => False)) 0 0 (fun _ => False) := by
  refine Met.ofW (cc := cXP_isParityRight) (maxL := 4) (ret := (some .boolean)) (by decide) rfl ?_
  intro p e s m args below meth c s₁ B hml hv
  obtain ⟨rfl, hP, hK⟩ := hv
  have hx := B.exec
  have hb := B.bytes
  have hr := B.returns
  have hts := atoms_spec (ws := wsXP_isParityRight) B.pre
  have hown : s.vm.findClass "ParityArray" = some m.cls := findClass_of_methodNamed B.named
  have hlocks := B.notSynchronized
  have hS : va_S (fun _ => False) s.heap s.heap [] := va_S.rf
  have hl := lv_entry ([.ref (pz_ax a), .int (nI s0)]) (n := 4) (Nat.le_of_ble_eq_true rfl)
  rw [lg_entry_eq]
  generalize (lg_sl ([.ref (pz_ax a), .int (nI s0)]) ++ List.replicate (4 - (lg_sl ([.ref (pz_ax a), .int (nI s0)])).length) Slot.unset).toArray = ls at hl ⊢
  have hl : lv_has ls 4 [(0, .ref (pz_ax a)), (1, .int (nI s0))] := hl
  have hP : va_P (dC, dI) vwCl (pz_XW a cJ cD dk su bl pt py) s.heap := hP
  refine lv_iload_n hx hb dXP_isParityRight_0 rfl (lv_at hl 1 rfl) ?_
  refine va_calli (va_runS (As := [.int (nI s0)]) (rest := []) ⟨hx, hb, hml, hown, hts⟩ (c_XP_parityDiskOf l s0 hs0) (va_cwS 1 hts (pz_gc (List.mem_cons_of_mem _ tw_204) rfl (pz_gc (List.mem_cons_of_mem _ tw_205) rfl (pz_gc (List.mem_cons_of_mem _ tw_1) rfl (pz_gi tcXP_parityDiskOf)))) rfl rfl rfl (by decide +kernel) ⟨Nat.le_of_ble_eq_true rfl, Nat.le_of_ble_eq_true rfl⟩) pz_preS0 rfl rfl hl.1 rfl (lv_room (Nat.le_of_ble_eq_true rfl)) dXP_isParityRight_1 ⟨Nat.zero_le _, Nat.zero_le _⟩) hS (fun q _ h => h.elim) (fun q h => h.elim) (fun r u t H locs ht hvm hw _ hz hk9 hS => ?_)
  have hP := pz_keep hP hk9
  clear hk9 hz ht hvm
  subst hw
  refine lv_istore_n hx hb dXP_isParityRight_4 rfl hl (by decide) rfl (fun ls hl => ?_)
  have hl : lv_has ls 4 [(2, .int (nI (s0 % 5))), (0, .ref (pz_ax a)), (1, .int (nI s0))] := hl
  refine lv_iconst (v := nI 0) hx hb dXP_isParityRight_5 (by decide) ?_
  refine lv_istore_n hx hb dXP_isParityRight_6 rfl hl (by decide) rfl (fun ls hl => ?_)
  have hl : lv_has ls 4 [(3, .int (nI 0)), (2, .int (nI (s0 % 5))), (0, .ref (pz_ax a)), (1, .int (nI s0))] := hl
  refine pz_loop (fun _ => 0) (fun _ => 0) 16 (fun k ls H locs => lv_has ls 4 [(3, .int (nI k)), (2, .int (nI (s0 % 5))), (0, .ref (pz_ax a)), (1, .int (nI s0))] ∧ va_P (dC, dI) vwCl (pz_XW a cJ cD dk su bl pt py) H ∧ va_S (fun _ => False) s.heap H locs) ?_ ?_ 16 0 (by omega) _ _ _ ⟨hl, hP, hS⟩
  · intro k ls H locs hk hI ih
    obtain ⟨hl, hP, hS⟩ := hI
    refine lv_iload_n hx hb dXP_isParityRight_7 rfl (lv_at hl 0 rfl) ?_
    refine lv_bipush (v := nI 16) hx hb dXP_isParityRight_8 (by decide) ?_
    refine lv_icmp_ge (tgt := 43) hx hb dXP_isParityRight_10 (by decide) (fun hc => absurd hc (nI_ge hk (by decide))) (fun _ => ?_)
    refine lv_aload_n hx hb dXP_isParityRight_13 rfl (lv_at hl 2 rfl) ?_
    refine va_get (D := (dC, dI)) (ci := 2) (v := .ref (pz_ad a)) (C := "ParityArray") (T := TXP) (N := 5) hx hb hts (fun w h => List.mem_cons_of_mem _ (inXP w h)) hown hK hP 0 rfl rfl 0 (by decide) (hts _ (List.mem_cons_of_mem _ tw_80)) (fun _ h9 => h9) rfl dXP_isParityRight_14 ?_
    refine lv_iload_n hx hb dXP_isParityRight_17 rfl (lv_at hl 1 rfl) ?_
    refine pz_ald hx hb hK hP 1 rfl (show s0 % 5 < 5 by omega) dXP_isParityRight_18 ?_
    refine lv_iload_n hx hb dXP_isParityRight_19 rfl (lv_at hl 3 rfl) ?_
    refine lv_iload_n hx hb dXP_isParityRight_20 rfl (lv_at hl 0 rfl) ?_
    refine va_calll (va_runV (As := [.int (nI s0), .int (nI k)]) (rest := []) ⟨hx, hb, hml, hown, hts⟩ (c_XD_longAt l dC dI _ _ _ cJ (dk (s0 % 5)) s0 k hs0 hk) (cwV 2 hts (pz_gc (List.mem_cons_of_mem _ tw_211) rfl (pz_gc (List.mem_cons_of_mem _ tw_212) rfl (pz_gc (List.mem_cons_of_mem _ tw_213) rfl (pz_gc (List.mem_cons_of_mem _ tw_3) rfl (pz_gi tcXD_longAt))))) rfl rfl rfl (by decide +kernel) ⟨Nat.le_of_ble_eq_true rfl, Nat.le_of_ble_eq_true rfl⟩) (pz_preV (va_recv hK (pz_Xd_P (d := (s0 % 5)) (show s0 % 5 < 5 by omega) hP) (q0 := 0) rfl rfl) (pz_Xd_P (d := (s0 % 5)) (show s0 % 5 < 5 by omega) hP) (hK.sub [0] rfl)) rfl rfl hl.1 rfl (lv_room (Nat.le_of_ble_eq_true rfl)) dXP_isParityRight_21 ⟨Nat.zero_le _, Nat.zero_le _⟩) hS (fun q _ h => h.elim) (fun q h => h.elim) (fun r u t H locs ht hvm hw _ hz hk9 hS => ?_)
    have hP := pz_keep hP hk9
    clear hk9 hz ht hvm
    subst hw
    refine lv_aload_n hx hb dXP_isParityRight_24 rfl (lv_at hl 2 rfl) ?_
    refine lv_iload_n hx hb dXP_isParityRight_25 rfl (lv_at hl 1 rfl) ?_
    refine lv_iload_n hx hb dXP_isParityRight_26 rfl (lv_at hl 3 rfl) ?_
    refine lv_iload_n hx hb dXP_isParityRight_27 rfl (lv_at hl 0 rfl) ?_
    refine va_calll (va_runV (As := [.int (nI (s0 % 5)), .int (nI s0), .int (nI k)]) (rest := [.long (pz_R (dk (s0 % 5)) (16 * s0 + k))]) ⟨hx, hb, hml, hown, hts⟩ (c_XP_othersTogether l dC dI a cJ cD dk su bl pt py (s0 % 5) s0 k hth (show s0 % 5 < 5 by omega) hs0 hk) (cwV 3 hts (pz_gc (List.mem_cons_of_mem _ tw_215) rfl (pz_gc (List.mem_cons_of_mem _ tw_217) rfl (pz_gc (List.mem_cons_of_mem _ ts_2) rfl (pz_gc (List.mem_cons_of_mem _ tw_1) rfl (pz_gi tcXP_othersTogether))))) rfl rfl rfl (by decide +kernel) ⟨Nat.le_of_ble_eq_true rfl, Nat.le_of_ble_eq_true rfl⟩) (pz_preV (va_recv hK hP (q0 := 0) rfl rfl) hP hK) rfl rfl hl.1 rfl (lv_room (Nat.le_of_ble_eq_true rfl)) dXP_isParityRight_28 ⟨Nat.zero_le _, Nat.zero_le _⟩) hS (fun q _ h => h.elim) (fun q h => h.elim) (fun r u t H locs ht hvm hw _ hz hk9 hS => ?_)
    have hP := pz_keep hP hk9
    clear hk9 hz ht hvm
    subst hw
    refine W.lcmp hx hb dXP_isParityRight_31 ?_
    refine lv_if_eq (tgt := 37) hx hb dXP_isParityRight_32 (by decide) (fun _ => ?_) (fun hc => absurd hc (fun h9 => h9 ((lg_cmp_eq _ _).mpr (hck k hk))))
    refine lv_iinc (k := 0) (v := nI (k + 1)) hx hb dXP_isParityRight_37 hl rfl (by rw [nI_succ]; rfl) (by decide) rfl (fun ls hl => ?_)
    have hl : lv_has ls 4 [(3, .int (nI (k + 1))), (2, .int (nI (s0 % 5))), (0, .ref (pz_ax a)), (1, .int (nI s0))] := hl
    refine lv_goto (tgt := 7) hx hb dXP_isParityRight_40 (by decide) ?_
    exact ih _ _ _ ⟨hl, hP, hS⟩
  · intro ls H locs hI
    obtain ⟨hl, hP, hS⟩ := hI
    refine lv_iload_n hx hb dXP_isParityRight_7 rfl (lv_at hl 0 rfl) ?_
    refine lv_bipush (v := nI 16) hx hb dXP_isParityRight_8 (by decide) ?_
    refine lv_icmp_ge (tgt := 43) hx hb dXP_isParityRight_10 (by decide) (fun _ => ?_) (fun hc => absurd hc (fun h9 => h9 (nI_le (Nat.le_refl 16) (by decide))))
    refine lv_iconst (v := nI 1) hx hb dXP_isParityRight_43 (by decide) ?_
    exact W.zret (v := nI 1) hx hb hr rfl (fun t ht hW => ⟨⟨_, (), rfl, rfl, trivial⟩, hS.F ht⟩) hS.2.2 dXP_isParityRight_44

set_option maxHeartbeats 4000000 in
set_option maxRecDepth 100000 in
/-- a parity mended -/
theorem c_XP_mendParity (l : Launch) (dC : Nat → ClassId) (dI : Nat → Nat → Nat) (sz : Nat) (a : pz_Ad) (cJ cD : ClassId) (dk : Nat → pz_Dk) (su : pz_Su) (bl pt py : Nat → Int64) (d0 : Nat) (hth : ∀ d, d < 5 → pz_th (dk d) ≤ 150) (hcw : pz_cw su ≤ 10) (hcb : pz_cb su ≤ 200) (hwc : pz_wc su < 50) (hd0 : d0 < 5) (hrb : ∀ n, pz_rb (dk d0) = some n → n < 600) : Met l yXP_mendParity wsXP_mendParity ({ frames := 2, cells := 0, slots := 0, locals := 108 }) (va_Pc [.ref (pz_ax a), .ref ((pz_da a d0).1)] (fun U => U.heap.size = sz ∧ va_P (dC, dI) vwCl (pz_XW a cJ cD dk su bl pt py) U.heap ∧ va_K (dC, dI) vwCl [(cJ, .long), (cD, .object "ParityArray$Disk")] U ∧ va_D (fun _ => True) (pz_XW a cJ cD dk su bl pt py) ∧ pz_NW U)) (va_Qv (fun (u : ((Nat → pz_Dk) × pz_Su) × (Nat → Int64)) => u.1 = pz_mend (dk, su) d0) (fun u t => va_P (dC, dI) vwCl (pz_XW a cJ cD u.1.1 u.1.2 bl pt u.2) t.heap ∧ va_K (dC, dI) vwCl [(cJ, .long), (cD, .object "ParityArray$Disk")] t ∧ va_D (va_A (pz_XW a cJ cD dk su bl pt py) sz) (pz_XW a cJ cD u.1.1 u.1.2 bl pt u.2)) (va_A (pz_XW a cJ cD dk su bl pt py) sz)) 0 0 (va_A (pz_XW a cJ cD dk su bl pt py) sz) := by
  refine Met.ofW (cc := cXP_mendParity) (maxL := 6) (ret := none) (by decide) rfl ?_
  intro p e s m args below meth c s₁ B hml hv
  obtain ⟨rfl, hsz, hP, hK, hD0, hNW⟩ := hv
  have hx := B.exec
  have hb := B.bytes
  have hr := B.returns
  have hts := atoms_spec (ws := wsXP_mendParity) B.pre
  have hown : s.vm.findClass "ParityArray" = some m.cls := findClass_of_methodNamed B.named
  have hlocks := B.notSynchronized
  subst hsz
  have hD := hD0.self (sz := s.heap.size)
  generalize hAe : va_A (pz_XW a cJ cD dk su bl pt py) s.heap.size = A at hD ⊢
  have hA : ∀ q : Nat, s.heap.size ≤ q → A q := fun q h => by rw [← hAe]; exact Or.inr h
  have hS : va_S A s.heap s.heap [] := va_S.rf
  have hl := lv_entry ([.ref (pz_ax a), .ref ((pz_da a d0).1)]) (n := 6) (Nat.le_of_ble_eq_true rfl)
  rw [lg_entry_eq]
  generalize (lg_sl ([.ref (pz_ax a), .ref ((pz_da a d0).1)]) ++ List.replicate (6 - (lg_sl ([.ref (pz_ax a), .ref ((pz_da a d0).1)])).length) Slot.unset).toArray = ls at hl ⊢
  have hl : lv_has ls 6 [(0, .ref (pz_ax a)), (1, .ref ((pz_da a d0).1))] := hl
  have hP : va_P (dC, dI) vwCl (pz_XW a cJ cD dk su bl pt py) s.heap := hP
  have hD : va_D A (pz_XW a cJ cD dk su bl pt py) := hD
  refine lv_aload_n hx hb dXP_mendParity_0 rfl (lv_at hl 1 rfl) ?_
  refine va_getN (D := (dC, dI)) (ci := 0) (v := .int (pz_o (pz_rb (dk d0)))) (C := "ParityArray$Disk") (T := TXD) (N := 5) hx hb hts (fun w h => List.mem_cons_of_mem _ (inXD w h)) hown hK hP (6 + 3 * d0) (pz_X_o hd0) rfl 2 (by decide) (va_Nw.use rfl (hNW _ (List.mem_of_getElem? (i := 4) rfl))) (fun _ h9 => h9) rfl dXP_mendParity_1 ?_
  refine lv_istore_n hx hb dXP_mendParity_4 rfl hl (by decide) rfl (fun ls hl => ?_)
  have hl : lv_has ls 6 [(2, .int (pz_o (pz_rb (dk d0)))), (0, .ref (pz_ax a)), (1, .ref ((pz_da a d0).1))] := hl
  refine lv_iload_n hx hb dXP_mendParity_5 rfl (lv_at hl 0 rfl) ?_
  refine lv_iconst (v := (-1)) hx hb dXP_mendParity_6 (by decide) ?_
  refine lv_icmp_ne (tgt := 11) hx hb dXP_mendParity_7 (by decide) (fun hc => ?_) (fun hc => ?_)
  · obtain ⟨n0, hn⟩ : ∃ n0, pz_rb (dk d0) = some n0 := by
      cases h9 : pz_rb (dk d0) with
      | none => exact absurd ((pz_om1 hrb).mpr h9) hc
      | some z => exact ⟨z, rfl⟩
    have hn0 := hrb n0 hn
    rw [hn] at hl
    have hl : lv_has ls 6 [(2, .int (nI n0)), (0, .ref (pz_ax a)), (1, .ref ((pz_da a d0).1))] := hl
    refine lv_iload_n hx hb dXP_mendParity_11 rfl (lv_at hl 0 rfl) ?_
    refine va_calli (va_runS (As := [.int (nI n0)]) (rest := []) ⟨hx, hb, hml, hown, hts⟩ (c_XP_stripeOf l n0 hn0) (va_cwS 1 hts (pz_gc (List.mem_cons_of_mem _ tw_198) rfl (pz_gc (List.mem_cons_of_mem _ tw_199) rfl (pz_gc (List.mem_cons_of_mem _ tw_1) rfl (pz_gi tcXP_stripeOf)))) rfl rfl rfl (by decide +kernel) ⟨Nat.le_of_ble_eq_true rfl, Nat.le_of_ble_eq_true rfl⟩) pz_preS0 rfl rfl hl.1 rfl (lv_room (Nat.le_of_ble_eq_true rfl)) dXP_mendParity_12 ⟨Nat.zero_le _, Nat.zero_le _⟩) hS (fun q _ h => h.elim) (fun q h => h.elim) (fun r u t H locs ht hvm hw _ hz hk9 hS => ?_)
    have hP := pz_keep hP hk9
    clear hk9 hz ht hvm
    subst hw
    refine lv_istore_n hx hb dXP_mendParity_15 rfl hl (by decide) rfl (fun ls hl => ?_)
    have hl : lv_has ls 6 [(3, .int (nI (n0 / 4))), (2, .int (nI n0)), (0, .ref (pz_ax a)), (1, .ref ((pz_da a d0).1))] := hl
    refine lv_aload_n hx hb dXP_mendParity_16 rfl (lv_at hl 2 rfl) ?_
    refine va_get (D := (dC, dI)) (ci := 2) (v := .ref (pz_ad a)) (C := "ParityArray") (T := TXP) (N := 5) hx hb hts (fun w h => List.mem_cons_of_mem _ (inXP w h)) hown hK hP 0 rfl rfl 0 (by decide) (hts _ (List.mem_cons_of_mem _ tw_80)) (fun _ h9 => h9) rfl dXP_mendParity_17 ?_
    refine lv_iload_n hx hb dXP_mendParity_20 rfl (lv_at hl 1 rfl) ?_
    refine va_calli (va_runS (As := [.int (nI n0)]) (rest := [.ref (pz_ad a)]) ⟨hx, hb, hml, hown, hts⟩ (c_XP_diskOf l n0 hn0) (va_cwS 1 hts (pz_gc (List.mem_cons_of_mem _ tw_201) rfl (pz_gc (List.mem_cons_of_mem _ tw_202) rfl (pz_gc (List.mem_cons_of_mem _ tw_1) rfl (pz_gi tcXP_diskOf)))) rfl rfl rfl (by decide +kernel) ⟨Nat.le_of_ble_eq_true rfl, Nat.le_of_ble_eq_true rfl⟩) pz_preS0 rfl rfl hl.1 rfl (lv_room (Nat.le_of_ble_eq_true rfl)) dXP_mendParity_21 ⟨Nat.zero_le _, Nat.zero_le _⟩) hS (fun q _ h => h.elim) (fun q h => h.elim) (fun r u t H locs ht hvm hw _ hz hk9 hS => ?_)
    have hP := pz_keep hP hk9
    clear hk9 hz ht hvm
    subst hw
    refine pz_ald hx hb hK hP 1 rfl (pz_dn_lt n0) dXP_mendParity_24 ?_
    refine lv_astore hx hb dXP_mendParity_25 hl (by decide) rfl (fun ls hl => ?_)
    have hl : lv_has ls 6 [(4, .ref ((pz_da a (pz_dn n0)).1)), (3, .int (nI (n0 / 4))), (2, .int (nI n0)), (0, .ref (pz_ax a)), (1, .ref ((pz_da a d0).1))] := hl
    refine lv_aload hx hb dXP_mendParity_27 (lv_at hl 0 rfl) ?_
    refine lv_iload_n hx hb dXP_mendParity_29 rfl (lv_at hl 1 rfl) ?_
    refine va_calli (va_runV (As := [.int (nI (n0 / 4))]) (rest := []) ⟨hx, hb, hml, hown, hts⟩ (c_XD_isThere l dC dI _ _ _ cJ (dk (pz_dn n0)) (n0 / 4) (hth _ (pz_dn_lt n0)) (by omega)) (cwV 1 hts (pz_gc (List.mem_cons_of_mem _ tw_207) rfl (pz_gc (List.mem_cons_of_mem _ tw_208) rfl (pz_gc (List.mem_cons_of_mem _ tw_209) rfl (pz_gc (List.mem_cons_of_mem _ tw_3) rfl (pz_gi tcXD_isThere))))) rfl rfl rfl (by decide +kernel) ⟨Nat.le_of_ble_eq_true rfl, Nat.le_of_ble_eq_true rfl⟩) (pz_preV (va_recv hK (pz_Xd_P (d := (pz_dn n0)) (pz_dn_lt n0) hP) (q0 := 0) rfl rfl) (pz_Xd_P (d := (pz_dn n0)) (pz_dn_lt n0) hP) (hK.sub [0] rfl)) rfl rfl hl.1 rfl (lv_room (Nat.le_of_ble_eq_true rfl)) dXP_mendParity_30 ⟨Nat.zero_le _, Nat.zero_le _⟩) hS (fun q _ h => h.elim) (fun q h => h.elim) (fun r u t H locs ht hvm hw _ hz hk9 hS => ?_)
    have hP := pz_keep hP hk9
    clear hk9 hz ht hvm
    subst hw
    refine lv_if_ne (tgt := 37) hx hb dXP_mendParity_33 (by decide) (fun hc => ?_) (fun hc => ?_)
    · have hc : (decide (n0 / 4 < pz_th (dk (pz_dn n0)))) = true := pz_bn hc
      have hc := of_decide_eq_true hc
      refine lv_iconst (v := nI 0) hx hb dXP_mendParity_37 (by decide) ?_
      refine lv_istore hx hb dXP_mendParity_38 hl (by decide) rfl (fun ls hl => ?_)
      have hl : lv_has ls 6 [(5, .int (nI 0)), (4, .ref ((pz_da a (pz_dn n0)).1)), (3, .int (nI (n0 / 4))), (2, .int (nI n0)), (0, .ref (pz_ax a)), (1, .ref ((pz_da a d0).1))] := hl
      refine pz_loop (fun _ => 0) (fun _ => 0) 16 (fun k ls H locs => ∃ py1 : Nat → Int64, lv_has ls 6 [(5, .int (nI k)), (4, .ref ((pz_da a (pz_dn n0)).1)), (3, .int (nI (n0 / 4))), (2, .int (nI n0)), (0, .ref (pz_ax a)), (1, .ref ((pz_da a d0).1))] ∧ va_P (dC, dI) vwCl (pz_XW a cJ cD dk su bl pt py1) H ∧ va_D A (pz_XW a cJ cD dk su bl pt py1) ∧ va_S A s.heap H locs ∧ ∀ j, j < k → py1 j = pz_rc (dk d0) j ^^^ pz_R (dk (pz_dn n0)) (16 * (n0 / 4) + j)) ?_ ?_ 16 0 (by omega) _ _ _ ⟨py, hl, hP, hD, hS, fun j h9 => absurd h9 (Nat.not_lt_zero _)⟩
      · intro k ls H locs hk hI ih
        obtain ⟨py1, hl, hP, hD, hS, hq⟩ := hI
        refine lv_iload hx hb dXP_mendParity_40 (lv_at hl 0 rfl) ?_
        refine lv_bipush (v := nI 16) hx hb dXP_mendParity_42 (by decide) ?_
        refine lv_icmp_ge (tgt := 76) hx hb dXP_mendParity_44 (by decide) (fun hc => absurd hc (nI_ge hk (by decide))) (fun _ => ?_)
        refine lv_aload_n hx hb dXP_mendParity_47 rfl (lv_at hl 4 rfl) ?_
        refine va_get (D := (dC, dI)) (ci := 2) (v := .ref (pz_ay a)) (C := "ParityArray") (T := TXP) (N := 5) hx hb hts (fun w h => List.mem_cons_of_mem _ (inXP w h)) hown hK hP 0 rfl rfl 4 (by decide) (hts _ (List.mem_cons_of_mem _ tw_84)) (fun _ h9 => h9) rfl dXP_mendParity_48 ?_
        refine lv_iload hx hb dXP_mendParity_51 (lv_at hl 0 rfl) ?_
        refine lv_aload_n hx hb dXP_mendParity_53 rfl (lv_at hl 5 rfl) ?_
        refine va_getN (D := (dC, dI)) (ci := 0) (v := .ref ((pz_da a d0).2.2)) (C := "ParityArray$Disk") (T := TXD) (N := 5) hx hb hts (fun w h => List.mem_cons_of_mem _ (inXD w h)) hown hK hP (6 + 3 * d0) (pz_X_o hd0) rfl 1 (by decide) (va_Nw.use rfl (hNW _ (List.mem_of_getElem? (i := 3) rfl))) (fun _ h9 => h9) rfl dXP_mendParity_54 ?_
        refine lv_iload hx hb dXP_mendParity_57 (lv_at hl 0 rfl) ?_
        refine va_lald hx hb hK hP (8 + 3 * d0) 0 (pz_X_c hd0) rfl (vp_in_nI (by omega) (by decide)) dXP_mendParity_59 ?_
        refine lv_topl (nm_r (congrArg (pz_rc (dk d0)) (nI_clamp (by omega))) ?_)
        refine lv_aload hx hb dXP_mendParity_60 (lv_at hl 1 rfl) ?_
        refine lv_iload_n hx hb dXP_mendParity_62 rfl (lv_at hl 2 rfl) ?_
        refine lv_iload hx hb dXP_mendParity_63 (lv_at hl 0 rfl) ?_
        refine va_calll (va_runV (As := [.int (nI (n0 / 4)), .int (nI k)]) (rest := [.long ((pz_rc (dk d0)) k), .int (nI k), .ref (pz_ay a)]) ⟨hx, hb, hml, hown, hts⟩ (c_XD_longAt l dC dI _ _ _ cJ (dk (pz_dn n0)) (n0 / 4) k (by omega) hk) (cwV 2 hts (pz_gc (List.mem_cons_of_mem _ tw_211) rfl (pz_gc (List.mem_cons_of_mem _ tw_212) rfl (pz_gc (List.mem_cons_of_mem _ tw_213) rfl (pz_gc (List.mem_cons_of_mem _ tw_3) rfl (pz_gi tcXD_longAt))))) rfl rfl rfl (by decide +kernel) ⟨Nat.le_of_ble_eq_true rfl, Nat.le_of_ble_eq_true rfl⟩) (pz_preV (va_recv hK (pz_Xd_P (d := (pz_dn n0)) (pz_dn_lt n0) hP) (q0 := 0) rfl rfl) (pz_Xd_P (d := (pz_dn n0)) (pz_dn_lt n0) hP) (hK.sub [0] rfl)) rfl rfl hl.1 rfl (lv_room (Nat.le_of_ble_eq_true rfl)) dXP_mendParity_65 ⟨Nat.zero_le _, Nat.zero_le _⟩) hS (fun q _ h => h.elim) (fun q h => h.elim) (fun r u t H locs ht hvm hw _ hz hk9 hS => ?_)
        have hP := pz_keep hP hk9
        clear hk9 hz ht hvm
        subst hw
        refine lv_lxor hx hb dXP_mendParity_68 ?_
        refine va_last hx hb hK hP hD hS 5 0 rfl rfl (vp_in_nI (by omega) (by decide)) dXP_mendParity_69 (fun H locs hP hD hS => ?_)
        rw [nI_clamp (show k < 2 ^ 31 by omega)] at hP hD
        have hP : va_P (dC, dI) vwCl (pz_XW a cJ cD dk su bl pt (vp_updL py1 k (((pz_rc (dk d0)) k) ^^^ (pz_R (dk (pz_dn n0)) (16 * (n0 / 4) + k))))) H := hP
        have hD : va_D A (pz_XW a cJ cD dk su bl pt (vp_updL py1 k (((pz_rc (dk d0)) k) ^^^ (pz_R (dk (pz_dn n0)) (16 * (n0 / 4) + k))))) := hD
        refine lv_iinc (k := 0) (v := nI (k + 1)) hx hb dXP_mendParity_70 hl rfl (by rw [nI_succ]; rfl) (by decide) rfl (fun ls hl => ?_)
        have hl : lv_has ls 6 [(5, .int (nI (k + 1))), (4, .ref ((pz_da a (pz_dn n0)).1)), (3, .int (nI (n0 / 4))), (2, .int (nI n0)), (0, .ref (pz_ax a)), (1, .ref ((pz_da a d0).1))] := hl
        refine lv_goto (tgt := 40) hx hb dXP_mendParity_73 (by decide) ?_
        exact ih _ _ _ ⟨_, hl, hP, hD, hS, fun j h9 => by
          by_cases e9 : j = k
          · subst e9; exact pk_uLs
          · rw [pk_uLn e9]; exact hq j (by omega)⟩
      · intro ls H locs hI
        obtain ⟨py1, hl, hP, hD, hS, hq⟩ := hI
        refine lv_iload hx hb dXP_mendParity_40 (lv_at hl 0 rfl) ?_
        refine lv_bipush (v := nI 16) hx hb dXP_mendParity_42 (by decide) ?_
        refine lv_icmp_ge (tgt := 76) hx hb dXP_mendParity_44 (by decide) (fun _ => ?_) (fun hc => absurd hc (fun h9 => h9 (nI_le (Nat.le_refl 16) (by decide))))
        refine lv_aload_n hx hb dXP_mendParity_76 rfl (lv_at hl 5 rfl) ?_
        refine lv_iload_n hx hb dXP_mendParity_77 rfl (lv_at hl 2 rfl) ?_
        refine lv_aload_n hx hb dXP_mendParity_78 rfl (lv_at hl 4 rfl) ?_
        refine va_get (D := (dC, dI)) (ci := 2) (v := .ref (pz_ay a)) (C := "ParityArray") (T := TXP) (N := 5) hx hb hts (fun w h => List.mem_cons_of_mem _ (inXP w h)) hown hK hP 0 rfl rfl 4 (by decide) (hts _ (List.mem_cons_of_mem _ tw_84)) (fun _ h9 => h9) rfl dXP_mendParity_79 ?_
        refine lv_aload_n hx hb dXP_mendParity_82 rfl (lv_at hl 4 rfl) ?_
        refine va_get (D := (dC, dI)) (ci := 2) (v := .ref (pz_as a)) (C := "ParityArray") (T := TXP) (N := 5) hx hb hts (fun w h => List.mem_cons_of_mem _ (inXP w h)) hown hK hP 0 rfl rfl 1 (by decide) (hts _ (List.mem_cons_of_mem _ tw_81)) (fun _ h9 => h9) rfl dXP_mendParity_83 ?_
        refine lv_sipush (v := nI 128) hx hb dXP_mendParity_86 (by decide) ?_
        have hPc := pz_Xs_P hP
        have hDc := pz_Xs_D hD
        have hFc := pz_Xs_F hD hS hA
        refine va_calli (va_runV (As := [.int (nI 128)]) (rest := [.ref (pz_ay a), .int (nI (n0 / 4)), .ref ((pz_da a d0).1)]) ⟨hx, hb, hml, hown, hts⟩ (c_XS_letThrough l dC dI _ (pz_as a) su 128 (by omega) hcw hcb (by omega)) (cwV 1 hts (pz_gc (List.mem_cons_of_mem _ tw_231) rfl (pz_gc (List.mem_cons_of_mem _ tw_232) rfl (pz_gc (List.mem_cons_of_mem _ tw_233) rfl (pz_gc (List.mem_cons_of_mem _ tw_2) rfl (pz_gi tcXS_letThrough))))) rfl rfl rfl (by decide +kernel) ⟨Nat.le_of_ble_eq_true rfl, Nat.le_of_ble_eq_true rfl⟩) (pz_preVw (va_recv hK hPc (q0 := 0) rfl rfl) hPc (hK.sub [] rfl) hDc) rfl rfl hl.1 rfl (lv_room (Nat.le_of_ble_eq_true rfl)) dXP_mendParity_89 ⟨Nat.zero_le _, Nat.zero_le _⟩) hS (fun q _ h => hFc q h) hFc (fun r u t H1 locs ht hvm hw hB hz hk1 hS => ?_)
        obtain ⟨hP1, hK1, hD1⟩ := hB
        rw [ht] at hP1
        obtain ⟨rfl, rfl⟩ := hw
        obtain ⟨hP, hD⟩ := pz_Xs_J hP hD hk1 hFc hP1 hD1
        clear hPc hDc hFc hP1 hD1 hK1 hk1 hz ht hvm
        generalize H1 = H at hP hS ⊢
        have hPc := pz_Xy_P (d := d0) hd0 hP
        have hDc := pz_Xy_D (d := d0) hd0 hD
        have hFc := pz_Xy_F (d := d0) hd0 hD hS hA
        refine va_callv (va_runV (As := [.int (nI (n0 / 4)), .ref (pz_ay a), .int (nI ((pz_let 128 su).1))]) (rest := []) ⟨hx, hb, hml, hown, hts⟩ (c_XD_writeRow l dC dI _ _ _ _ cJ (dk d0) (pz_ay a) py1 (n0 / 4) (pz_let 128 su).1 (by omega) (pz_let_le 128 su)) (cwV 3 hts (pz_gc (List.mem_cons_of_mem _ tw_245) rfl (pz_gc (List.mem_cons_of_mem _ tw_246) rfl (pz_gc (List.mem_cons_of_mem _ tw_247) rfl (pz_gc (List.mem_cons_of_mem _ tw_3) rfl (pz_gi tcXD_writeRow))))) rfl rfl rfl (by decide +kernel) ⟨Nat.le_of_ble_eq_true rfl, Nat.le_of_ble_eq_true rfl⟩) (pz_preVw (va_recv hK hPc (q0 := 0) rfl rfl) hPc (hK.sub [0] rfl) hDc) rfl rfl hl.1 rfl (lv_room (Nat.le_of_ble_eq_true rfl)) dXP_mendParity_92 ⟨Nat.zero_le _, Nat.zero_le _⟩) hS (fun q _ h => hFc q h) hFc (fun u t H1 locs ht hvm hw hB hz hk1 hS => ?_)
        obtain ⟨hP1, hK1, hD1⟩ := hB
        rw [ht] at hP1
        subst hw
        obtain ⟨hP, hD⟩ := pz_Xy_J (d := d0) hd0 hP hD hk1 hFc hP1 hD1
        clear hPc hDc hFc hP1 hD1 hK1 hk1 hz ht hvm
        generalize H1 = H at hP hS ⊢
        exact W.vret hx hb hr (fun t ht hW => ⟨⟨((va_up dk d0 (pz_dwr (dk d0) (n0 / 4) py1 (pz_let 128 su).1), (pz_let 128 su).2), py1), rfl, by unfold pz_mend; dsimp only; rw [hn]; dsimp only; rw [if_pos hc, show pz_dwr (dk d0) (n0 / 4) py1 (pz_let 128 su).1 = pz_dwr (dk d0) (n0 / 4) (fun j => pz_rc (dk d0) j ^^^ pz_R (dk (pz_dn n0)) (16 * (n0 / 4) + j)) (pz_let 128 su).1 from by unfold pz_dwr; rw [pz_wr_congr hq]], by rw [ht]; exact hP, va_K.moved hW.alike hK, hAe ▸ hD⟩, hS.F ht⟩) hS.2.2 dXP_mendParity_95
    · have hc : (decide (n0 / 4 < pz_th (dk (pz_dn n0)))) = false := pz_b0.mp hc
      have hc := of_decide_eq_false hc
      exact W.vret hx hb hr (fun t ht hW => ⟨⟨((dk, su), py), rfl, by unfold pz_mend; dsimp only; rw [hn]; dsimp only; rw [if_neg hc], by rw [ht]; exact hP, va_K.moved hW.alike hK, hAe ▸ hD⟩, hS.F ht⟩) hS.2.2 dXP_mendParity_36
  · have hn : pz_rb (dk d0) = none := (pz_om1 hrb).mp hc
    exact W.vret hx hb hr (fun t ht hW => ⟨⟨((dk, su), py), rfl, by unfold pz_mend; dsimp only; rw [hn], by rw [ht]; exact hP, va_K.moved hW.alike hK, hAe ▸ hD⟩, hS.F ht⟩) hS.2.2 dXP_mendParity_10

