/-! the law's helpers (laid by a program) -/
set_option maxHeartbeats 4000000 in
set_option maxRecDepth 100000 in
theorem c_XL_set (l : Launch) (hl0 : l.stackTraces = false) (dC : Nat → ClassId) (dI : Nat → Nat → Nat) (sz : Nat) (a : pz_Ad) (cJ cD : ClassId) (dk : Nat → pz_Dk) (su : pz_Su) (bl pt py : Nat → Int64) (o : Nat) (ov : Nat → Int64) (sa : Nat → Nat) (x : pz_Mu) (n i : Int32) (w0 : Int64) (hI : pz_Inv dk su x) : Met l yXL_set wsXL_set ({ frames := 7, cells := 1, slots := 6, locals := 158 }) (va_Pc [.ref (pz_ax a), .int n, .int i, .long w0, .ref o] (fun U => U.heap.size = sz ∧ va_P (dC, dI) vwCl (pz_LX a cJ cD dk su bl pt py o ov) U.heap ∧ va_K (dC, dI) vwCl [(cJ, .long), (cD, .object "ParityArray$Disk")] U ∧ va_D (fun _ => True) (pz_LX a cJ cD dk su bl pt py o ov) ∧ pz_NW U ∧ pz_SR sa U ∧ pz_ZS (va_A (pz_LX a cJ cD dk su bl pt py o ov) sz) U U.heap ∧ pz_CN U)) (va_Qi (fun (r : Int32) (u : pz_St × (Nat → Int64)) => r = nI ((pz_gS x n i w0).2.2) ∧ ((pz_gS x n i w0).2.2 = 0 → u.2 0 = (pz_gS x n i w0).1) ∧ pz_Inv u.1.1 u.1.2.1 ((pz_gS x n i w0).2.1)) (fun u t => va_P (dC, dI) vwCl (pz_LX a cJ cD u.1.1 u.1.2.1 u.1.2.2.1 u.1.2.2.2.1 u.1.2.2.2.2 o u.2) t.heap ∧ va_K (dC, dI) vwCl [(cJ, .long), (cD, .object "ParityArray$Disk")] t ∧ va_D (va_A (pz_LX a cJ cD dk su bl pt py o ov) sz) (pz_LX a cJ cD u.1.1 u.1.2.1 u.1.2.2.1 u.1.2.2.2.1 u.1.2.2.2.2 o u.2)) (va_A (pz_LX a cJ cD dk su bl pt py o ov) sz)) 1 6 (va_A (pz_LX a cJ cD dk su bl pt py o ov) sz) := by
  refine pz_noX ?_
  refine vx_ofWH (cc := cXL_set) (maxL := 7) (ret := (some .int)) (hh := hhXL_set) (by decide) rfl ?_
  intro p e s m args below meth c s₁ B hml hv
  obtain ⟨rfl, hsz, hP, hK, hD0, hNW, hSR, hZ, hCN⟩ := hv
  have hx := B.exec
  have hb := B.bytes
  have hr := B.returns
  have hts := atoms_spec (ws := wsXL_set) B.pre
  have hown : s.vm.findClass "ParityArrayLaw" = some m.cls := findClass_of_methodNamed B.named
  have hlocks := B.notSynchronized
  have htab := vx_table (x := yXL_set) B (hts (.codeWith yXL_set cXL_set 7 (some .int) hhXL_set) List.mem_cons_self)
  subst hsz
  have hD := hD0.self (sz := s.heap.size)
  generalize hAe : va_A (pz_LX a cJ cD dk su bl pt py o ov) s.heap.size = A at hD hZ ⊢
  have hA : ∀ q : Nat, s.heap.size ≤ q → A q := fun q h => by rw [← hAe]; exact Or.inr h
  have hS : va_S A s.heap s.heap [] := va_S.rf
  have hl := lv_entry ([.ref (pz_ax a), .int n, .int i, .long w0, .ref o]) (n := 7) (Nat.le_of_ble_eq_true rfl)
  rw [lg_entry_eq]
  generalize (lg_sl ([.ref (pz_ax a), .int n, .int i, .long w0, .ref o]) ++ List.replicate (7 - (lg_sl ([.ref (pz_ax a), .int n, .int i, .long w0, .ref o])).length) Slot.unset).toArray = ls at hl ⊢
  have hl : lv_has ls 7 [(0, .ref (pz_ax a)), (1, .int n), (2, .int i), (3, .long w0), (5, .ref o)] := hl
  refine lv_aload hx hb dXL_set_0 (lv_at hl 4 rfl) ?_
  refine lv_iconst (v := nI 0) hx hb dXL_set_2 (by decide) ?_
  refine lv_aload_n hx hb dXL_set_3 rfl (lv_at hl 0 rfl) ?_
  refine lv_iload_n hx hb dXL_set_4 rfl (lv_at hl 1 rfl) ?_
  refine lv_iload_n hx hb dXL_set_5 rfl (lv_at hl 2 rfl) ?_
  refine lv_lload_n hx hb dXL_set_6 rfl (lv_at hl 3 rfl) ?_
  have hPc := pz_L_P hP
  have hDc := pz_L_D hD
  have hFc := pz_L_F hD hS hA
  have hZc := (hZ.kept hS.2.1).narrow hFc
  refine vx_calll (vx_runV (As := [.int n, .int i, .long w0]) (rest := [.int (nI 0), .ref o]) ⟨hx, hb, hml, hown, hts⟩ (c_XP_set l hl0 dC dI _ a cJ cD dk su bl pt py sa x n i w0 hI) (cwV 3 hts (pz_gc (List.mem_cons_of_mem _ tw_102) rfl (pz_gc (List.mem_cons_of_mem _ tw_103) rfl (pz_gc (List.mem_cons_of_mem _ tw_104) rfl (pz_gc (List.mem_cons_of_mem _ tw_1) rfl (pz_gi tcXP_set))))) rfl rfl rfl (by decide +kernel) ⟨Nat.le_of_ble_eq_true rfl, Nat.le_of_ble_eq_true rfl⟩) (pz_preVx (va_recv hK hPc (q0 := 0) rfl rfl) hPc hK hDc hNW hSR hZc) rfl rfl hl.1 rfl (lv_room (Nat.le_of_ble_eq_true rfl)) dXL_set_7 ⟨Nat.le_of_ble_eq_true rfl, Nat.le_of_ble_eq_true rfl⟩) hS (fun q _ h => hFc q h) hFc (fun q _ h => hFc q h) (fun E ce q9 u t H1 locs ht hvm hpx hB hz hk1 hS hcell hcv hcl => ?_) (fun r u t H1 locs ht hvm hw hB hz hk1 hS => ?_)
  · obtain ⟨⟨dk1, su1, bl1, pt1, py1⟩, cd⟩ := u
    obtain ⟨⟨hG, hI2⟩, hne⟩ := hpx
    obtain ⟨hE, hP1, hK1, hD1⟩ := hB
    rw [ht] at hP1
    dsimp only at hG hI2 hne hE hP1 hD1
    obtain ⟨hP, hD⟩ := pz_L_J hP hD hk1 hFc hP1 hD1
    generalize H1 = H at hP hS hcell ⊢
    have hcd : cd = 1 ∨ cd = 2 ∨ cd = 3 := by have := pz_gS_c x n i w0; omega
    rcases hcd with rfl | rfl | rfl
    · obtain rfl : E = "java/lang/IllegalStateException" := hE
      refine vx_catch (own := "ParityArrayLaw") (name := "java/lang/IllegalStateException") hown [] ⟨0, 11, 14, 13⟩ [⟨0, 11, 18, 15⟩, ⟨0, 11, 22, 17⟩] htab (fun z h => absurd h List.not_mem_nil) (by decide) (by decide) (hts _ (List.mem_cons_of_mem _ tw_99)) (va_Nw.use rfl (hNW _ (List.mem_of_getElem? (i := 7) rfl))) hcell hcv hcl ?_
      refine lv_astore hx hb dXL_set_14 hl (by decide) rfl (fun ls hl => ?_)
      have hl : lv_has ls 7 [(6, .ref q9), (0, .ref (pz_ax a)), (1, .int n), (2, .int i), (3, .long w0), (5, .ref o)] := hl
      refine lv_iconst (v := nI 1) hx hb dXL_set_16 (by decide) ?_
      refine vx_ret ?_
      exact W.iret (v := nI 1) hx hb hr (fun t ht hW => ⟨⟨_, ((dk1, su1, bl1, pt1, py1), ov), rfl, ⟨congrArg nI (Eq.symm hG), fun h9 => absurd ((Eq.symm hG).trans h9) (by decide), hI2⟩, by rw [ht]; exact hP, va_K.moved hW.alike hK, hD⟩, hS.F ht⟩) hS.2.2 dXL_set_17
    · obtain rfl : E = "java/lang/IndexOutOfBoundsException" := hE
      refine vx_catch (own := "ParityArrayLaw") (name := "java/lang/IndexOutOfBoundsException") hown [⟨0, 11, 14, 13⟩] ⟨0, 11, 18, 15⟩ [⟨0, 11, 22, 17⟩] htab (fun z h => by simp only [List.mem_cons, List.mem_nil_iff, or_false] at h; rcases h with rfl; exact Or.inr ⟨by decide, "java/lang/IllegalStateException", hts _ (List.mem_cons_of_mem _ tw_99), hCN.1⟩) (by decide) (by decide) (hts _ (List.mem_cons_of_mem _ tw_100)) (va_Nw.use rfl (hNW _ (List.mem_of_getElem? (i := 14) rfl))) hcell hcv hcl ?_
      refine lv_astore hx hb dXL_set_18 hl (by decide) rfl (fun ls hl => ?_)
      have hl : lv_has ls 7 [(6, .ref q9), (0, .ref (pz_ax a)), (1, .int n), (2, .int i), (3, .long w0), (5, .ref o)] := hl
      refine lv_iconst (v := nI 2) hx hb dXL_set_20 (by decide) ?_
      refine vx_ret ?_
      exact W.iret (v := nI 2) hx hb hr (fun t ht hW => ⟨⟨_, ((dk1, su1, bl1, pt1, py1), ov), rfl, ⟨congrArg nI (Eq.symm hG), fun h9 => absurd ((Eq.symm hG).trans h9) (by decide), hI2⟩, by rw [ht]; exact hP, va_K.moved hW.alike hK, hD⟩, hS.F ht⟩) hS.2.2 dXL_set_21
    · obtain rfl : E = "java/lang/ArithmeticException" := hE
      refine vx_catch (own := "ParityArrayLaw") (name := "java/lang/ArithmeticException") hown [⟨0, 11, 14, 13⟩, ⟨0, 11, 18, 15⟩] ⟨0, 11, 22, 17⟩ [] htab (fun z h => by simp only [List.mem_cons, List.mem_nil_iff, or_false] at h; rcases h with rfl | rfl; exact Or.inr ⟨by decide, "java/lang/IllegalStateException", hts _ (List.mem_cons_of_mem _ tw_99), hCN.2.1⟩; exact Or.inr ⟨by decide, "java/lang/IndexOutOfBoundsException", hts _ (List.mem_cons_of_mem _ tw_100), hCN.2.2.1⟩) (by decide) (by decide) (hts _ (List.mem_cons_of_mem _ tw_101)) (va_Nw.use rfl (hNW _ (List.mem_of_getElem? (i := 15) rfl))) hcell hcv hcl ?_
      refine lv_astore hx hb dXL_set_22 hl (by decide) rfl (fun ls hl => ?_)
      have hl : lv_has ls 7 [(6, .ref q9), (0, .ref (pz_ax a)), (1, .int n), (2, .int i), (3, .long w0), (5, .ref o)] := hl
      refine lv_iconst (v := nI 3) hx hb dXL_set_24 (by decide) ?_
      refine vx_ret ?_
      exact W.iret (v := nI 3) hx hb hr (fun t ht hW => ⟨⟨_, ((dk1, su1, bl1, pt1, py1), ov), rfl, ⟨congrArg nI (Eq.symm hG), fun h9 => absurd ((Eq.symm hG).trans h9) (by decide), hI2⟩, by rw [ht]; exact hP, va_K.moved hW.alike hK, hD⟩, hS.F ht⟩) hS.2.2 dXL_set_25
  · obtain ⟨dk1, su1, bl1, pt1, py1⟩ := u
    obtain ⟨hP1, hK1, hD1⟩ := hB
    rw [ht] at hP1
    dsimp only at hw hP1 hD1
    obtain ⟨hP, hD⟩ := pz_L_J hP hD hk1 hFc hP1 hD1
    generalize H1 = H at hP hS ⊢
    obtain ⟨hans, hcd, hI2⟩ := hw
    refine va_last hx hb hK hP hD hS 21 0 rfl rfl (vp_in_nI (by omega) (by decide)) dXL_set_10 (fun H locs hP hD hS => ?_)
    rw [nI_clamp (show 0 < 2 ^ 31 by omega)] at hP hD
    have hP : va_P (dC, dI) vwCl (pz_LX a cJ cD dk1 su1 bl1 pt1 py1 o (vp_updL ov 0 r)) H := hP
    have hD : va_D A (pz_LX a cJ cD dk1 su1 bl1 pt1 py1 o (vp_updL ov 0 r)) := hD
    refine lv_goto (tgt := 26) hx hb dXL_set_11 (by decide) ?_
    refine lv_iconst (v := nI 0) hx hb dXL_set_26 (by decide) ?_
    refine vx_ret ?_
    exact W.iret (v := nI 0) hx hb hr (fun t ht hW => ⟨⟨_, ((dk1, su1, bl1, pt1, py1), vp_updL ov 0 r), rfl, ⟨congrArg nI (Eq.symm hcd), fun _ => Eq.trans (show vp_updL ov 0 r 0 = r from pk_uLs) hans, hI2⟩, by rw [ht]; exact hP, va_K.moved hW.alike hK, hD⟩, hS.F ht⟩) hS.2.2 dXL_set_27

set_option maxHeartbeats 4000000 in
set_option maxRecDepth 100000 in
theorem c_XL_get (l : Launch) (hl0 : l.stackTraces = false) (dC : Nat → ClassId) (dI : Nat → Nat → Nat) (sz : Nat) (a : pz_Ad) (cJ cD : ClassId) (dk : Nat → pz_Dk) (su : pz_Su) (bl pt py : Nat → Int64) (o : Nat) (ov : Nat → Int64) (sa : Nat → Nat) (x : pz_Mu) (n i : Int32) (hI : pz_Inv dk su x) : Met l yXL_get wsXL_get ({ frames := 7, cells := 1, slots := 6, locals := 112 }) (va_Pc [.ref (pz_ax a), .int n, .int i, .ref o] (fun U => U.heap.size = sz ∧ va_P (dC, dI) vwCl (pz_LX a cJ cD dk su bl pt py o ov) U.heap ∧ va_K (dC, dI) vwCl [(cJ, .long), (cD, .object "ParityArray$Disk")] U ∧ va_D (fun _ => True) (pz_LX a cJ cD dk su bl pt py o ov) ∧ pz_NW U ∧ pz_SR sa U ∧ pz_ZS (va_A (pz_LX a cJ cD dk su bl pt py o ov) sz) U U.heap ∧ pz_CN U)) (va_Qi (fun (r : Int32) (u : pz_St × (Nat → Int64)) => r = nI ((pz_gG x n i).2) ∧ ((pz_gG x n i).2 = 0 → u.2 0 = (pz_gG x n i).1) ∧ pz_Inv u.1.1 u.1.2.1 x) (fun u t => va_P (dC, dI) vwCl (pz_LX a cJ cD u.1.1 u.1.2.1 u.1.2.2.1 u.1.2.2.2.1 u.1.2.2.2.2 o u.2) t.heap ∧ va_K (dC, dI) vwCl [(cJ, .long), (cD, .object "ParityArray$Disk")] t ∧ va_D (va_A (pz_LX a cJ cD dk su bl pt py o ov) sz) (pz_LX a cJ cD u.1.1 u.1.2.1 u.1.2.2.1 u.1.2.2.2.1 u.1.2.2.2.2 o u.2)) (va_A (pz_LX a cJ cD dk su bl pt py o ov) sz)) 1 6 (va_A (pz_LX a cJ cD dk su bl pt py o ov) sz) := by
  refine pz_noX ?_
  refine vx_ofWH (cc := cXL_get) (maxL := 5) (ret := (some .int)) (hh := hhXL_get) (by decide) rfl ?_
  intro p e s m args below meth c s₁ B hml hv
  obtain ⟨rfl, hsz, hP, hK, hD0, hNW, hSR, hZ, hCN⟩ := hv
  have hx := B.exec
  have hb := B.bytes
  have hr := B.returns
  have hts := atoms_spec (ws := wsXL_get) B.pre
  have hown : s.vm.findClass "ParityArrayLaw" = some m.cls := findClass_of_methodNamed B.named
  have hlocks := B.notSynchronized
  have htab := vx_table (x := yXL_get) B (hts (.codeWith yXL_get cXL_get 5 (some .int) hhXL_get) List.mem_cons_self)
  subst hsz
  have hD := hD0.self (sz := s.heap.size)
  generalize hAe : va_A (pz_LX a cJ cD dk su bl pt py o ov) s.heap.size = A at hD hZ ⊢
  have hA : ∀ q : Nat, s.heap.size ≤ q → A q := fun q h => by rw [← hAe]; exact Or.inr h
  have hS : va_S A s.heap s.heap [] := va_S.rf
  have hl := lv_entry ([.ref (pz_ax a), .int n, .int i, .ref o]) (n := 5) (Nat.le_of_ble_eq_true rfl)
  rw [lg_entry_eq]
  generalize (lg_sl ([.ref (pz_ax a), .int n, .int i, .ref o]) ++ List.replicate (5 - (lg_sl ([.ref (pz_ax a), .int n, .int i, .ref o])).length) Slot.unset).toArray = ls at hl ⊢
  have hl : lv_has ls 5 [(0, .ref (pz_ax a)), (1, .int n), (2, .int i), (3, .ref o)] := hl
  refine lv_aload_n hx hb dXL_get_0 rfl (lv_at hl 3 rfl) ?_
  refine lv_iconst (v := nI 0) hx hb dXL_get_1 (by decide) ?_
  refine lv_aload_n hx hb dXL_get_2 rfl (lv_at hl 0 rfl) ?_
  refine lv_iload_n hx hb dXL_get_3 rfl (lv_at hl 1 rfl) ?_
  refine lv_iload_n hx hb dXL_get_4 rfl (lv_at hl 2 rfl) ?_
  have hPc := pz_L_P hP
  have hDc := pz_L_D hD
  have hFc := pz_L_F hD hS hA
  have hZc := (hZ.kept hS.2.1).narrow hFc
  refine vx_calll (vx_runV (As := [.int n, .int i]) (rest := [.int (nI 0), .ref o]) ⟨hx, hb, hml, hown, hts⟩ (c_XP_get l hl0 dC dI _ a cJ cD dk su bl pt py sa x n i hI) (cwV 2 hts (pz_gc (List.mem_cons_of_mem _ tw_273) rfl (pz_gc (List.mem_cons_of_mem _ tw_274) rfl (pz_gc (List.mem_cons_of_mem _ tw_275) rfl (pz_gc (List.mem_cons_of_mem _ tw_1) rfl (pz_gi tcXP_get))))) rfl rfl rfl (by decide +kernel) ⟨Nat.le_of_ble_eq_true rfl, Nat.le_of_ble_eq_true rfl⟩) (pz_preVx (va_recv hK hPc (q0 := 0) rfl rfl) hPc hK hDc hNW hSR hZc) rfl rfl hl.1 rfl (lv_room (Nat.le_of_ble_eq_true rfl)) dXL_get_5 ⟨Nat.le_of_ble_eq_true rfl, Nat.le_of_ble_eq_true rfl⟩) hS (fun q _ h => hFc q h) hFc (fun q _ h => hFc q h) (fun E ce q9 u t H1 locs ht hvm hpx hB hz hk1 hS hcell hcv hcl => ?_) (fun r u t H1 locs ht hvm hw hB hz hk1 hS => ?_)
  · obtain ⟨⟨dk1, su1, bl1, pt1, py1⟩, cd⟩ := u
    obtain ⟨⟨hG, hI2⟩, hne⟩ := hpx
    obtain ⟨hE, hP1, hK1, hD1⟩ := hB
    rw [ht] at hP1
    dsimp only at hG hI2 hne hE hP1 hD1
    obtain ⟨hP, hD⟩ := pz_L_J hP hD hk1 hFc hP1 hD1
    generalize H1 = H at hP hS hcell ⊢
    have hcd : cd = 1 ∨ cd = 2 := by have := pz_gG_c x n i; omega
    rcases hcd with rfl | rfl
    · obtain rfl : E = "java/lang/IllegalStateException" := hE
      refine vx_catch (own := "ParityArrayLaw") (name := "java/lang/IllegalStateException") hown [] ⟨0, 9, 12, 13⟩ [⟨0, 9, 16, 15⟩] htab (fun z h => absurd h List.not_mem_nil) (by decide) (by decide) (hts _ (List.mem_cons_of_mem _ tw_99)) (va_Nw.use rfl (hNW _ (List.mem_of_getElem? (i := 7) rfl))) hcell hcv hcl ?_
      refine lv_astore hx hb dXL_get_12 hl (by decide) rfl (fun ls hl => ?_)
      have hl : lv_has ls 5 [(4, .ref q9), (0, .ref (pz_ax a)), (1, .int n), (2, .int i), (3, .ref o)] := hl
      refine lv_iconst (v := nI 1) hx hb dXL_get_14 (by decide) ?_
      refine vx_ret ?_
      exact W.iret (v := nI 1) hx hb hr (fun t ht hW => ⟨⟨_, ((dk1, su1, bl1, pt1, py1), ov), rfl, ⟨congrArg nI (Eq.symm hG), fun h9 => absurd ((Eq.symm hG).trans h9) (by decide), hI2⟩, by rw [ht]; exact hP, va_K.moved hW.alike hK, hD⟩, hS.F ht⟩) hS.2.2 dXL_get_15
    · obtain rfl : E = "java/lang/IndexOutOfBoundsException" := hE
      refine vx_catch (own := "ParityArrayLaw") (name := "java/lang/IndexOutOfBoundsException") hown [⟨0, 9, 12, 13⟩] ⟨0, 9, 16, 15⟩ [] htab (fun z h => by simp only [List.mem_cons, List.mem_nil_iff, or_false] at h; rcases h with rfl; exact Or.inr ⟨by decide, "java/lang/IllegalStateException", hts _ (List.mem_cons_of_mem _ tw_99), hCN.1⟩) (by decide) (by decide) (hts _ (List.mem_cons_of_mem _ tw_100)) (va_Nw.use rfl (hNW _ (List.mem_of_getElem? (i := 14) rfl))) hcell hcv hcl ?_
      refine lv_astore hx hb dXL_get_16 hl (by decide) rfl (fun ls hl => ?_)
      have hl : lv_has ls 5 [(4, .ref q9), (0, .ref (pz_ax a)), (1, .int n), (2, .int i), (3, .ref o)] := hl
      refine lv_iconst (v := nI 2) hx hb dXL_get_18 (by decide) ?_
      refine vx_ret ?_
      exact W.iret (v := nI 2) hx hb hr (fun t ht hW => ⟨⟨_, ((dk1, su1, bl1, pt1, py1), ov), rfl, ⟨congrArg nI (Eq.symm hG), fun h9 => absurd ((Eq.symm hG).trans h9) (by decide), hI2⟩, by rw [ht]; exact hP, va_K.moved hW.alike hK, hD⟩, hS.F ht⟩) hS.2.2 dXL_get_19
  · obtain ⟨dk1, su1, bl1, pt1, py1⟩ := u
    obtain ⟨hP1, hK1, hD1⟩ := hB
    rw [ht] at hP1
    dsimp only at hw hP1 hD1
    obtain ⟨hP, hD⟩ := pz_L_J hP hD hk1 hFc hP1 hD1
    generalize H1 = H at hP hS ⊢
    obtain ⟨hg, hI2⟩ := hw; have hcd : (pz_gG x n i).2 = 0 := (congrArg Prod.snd hg).symm; have hans : r = (pz_gG x n i).1 := congrArg Prod.fst hg
    refine va_last hx hb hK hP hD hS 21 0 rfl rfl (vp_in_nI (by omega) (by decide)) dXL_get_8 (fun H locs hP hD hS => ?_)
    rw [nI_clamp (show 0 < 2 ^ 31 by omega)] at hP hD
    have hP : va_P (dC, dI) vwCl (pz_LX a cJ cD dk1 su1 bl1 pt1 py1 o (vp_updL ov 0 r)) H := hP
    have hD : va_D A (pz_LX a cJ cD dk1 su1 bl1 pt1 py1 o (vp_updL ov 0 r)) := hD
    refine lv_goto (tgt := 20) hx hb dXL_get_9 (by decide) ?_
    refine lv_iconst (v := nI 0) hx hb dXL_get_20 (by decide) ?_
    refine vx_ret ?_
    exact W.iret (v := nI 0) hx hb hr (fun t ht hW => ⟨⟨_, ((dk1, su1, bl1, pt1, py1), vp_updL ov 0 r), rfl, ⟨congrArg nI (Eq.symm hcd), fun _ => Eq.trans (show vp_updL ov 0 r 0 = r from pk_uLs) hans, hI2⟩, by rw [ht]; exact hP, va_K.moved hW.alike hK, hD⟩, hS.F ht⟩) hS.2.2 dXL_get_21

set_option maxHeartbeats 4000000 in
set_option maxRecDepth 100000 in
theorem c_XL_die (l : Launch) (hl0 : l.stackTraces = false) (dC : Nat → ClassId) (dI : Nat → Nat → Nat) (sz : Nat) (a : pz_Ad) (cJ cD : ClassId) (dk : Nat → pz_Dk) (su : pz_Su) (bl pt py : Nat → Int64) (o : Nat) (ov : Nat → Int64) (sa : Nat → Nat) (x : pz_Mu) (d : Int32) (hI : pz_Inv dk su x) : Met l yXL_die wsXL_die ({ frames := 7, cells := 1, slots := 6, locals := 111 }) (va_Pc [.ref (pz_ax a), .int d] (fun U => U.heap.size = sz ∧ va_P (dC, dI) vwCl (pz_LX a cJ cD dk su bl pt py o ov) U.heap ∧ va_K (dC, dI) vwCl [(cJ, .long), (cD, .object "ParityArray$Disk")] U ∧ va_D (fun _ => True) (pz_LX a cJ cD dk su bl pt py o ov) ∧ pz_NW U ∧ pz_SR sa U ∧ pz_ZS (va_A (pz_LX a cJ cD dk su bl pt py o ov) sz) U U.heap ∧ pz_CN U)) (va_Qi (fun (r : Int32) (u : pz_St × (Nat → Int64)) => r = nI ((pz_gD x d).2) ∧ pz_Inv u.1.1 u.1.2.1 ((pz_gD x d).1)) (fun u t => va_P (dC, dI) vwCl (pz_LX a cJ cD u.1.1 u.1.2.1 u.1.2.2.1 u.1.2.2.2.1 u.1.2.2.2.2 o u.2) t.heap ∧ va_K (dC, dI) vwCl [(cJ, .long), (cD, .object "ParityArray$Disk")] t ∧ va_D (va_A (pz_LX a cJ cD dk su bl pt py o ov) sz) (pz_LX a cJ cD u.1.1 u.1.2.1 u.1.2.2.1 u.1.2.2.2.1 u.1.2.2.2.2 o u.2)) (va_A (pz_LX a cJ cD dk su bl pt py o ov) sz)) 1 6 (va_A (pz_LX a cJ cD dk su bl pt py o ov) sz) := by
  refine pz_noX ?_
  refine vx_ofWH (cc := cXL_die) (maxL := 3) (ret := (some .int)) (hh := hhXL_die) (by decide) rfl ?_
  intro p e s m args below meth c s₁ B hml hv
  obtain ⟨rfl, hsz, hP, hK, hD0, hNW, hSR, hZ, hCN⟩ := hv
  have hx := B.exec
  have hb := B.bytes
  have hr := B.returns
  have hts := atoms_spec (ws := wsXL_die) B.pre
  have hown : s.vm.findClass "ParityArrayLaw" = some m.cls := findClass_of_methodNamed B.named
  have hlocks := B.notSynchronized
  have htab := vx_table (x := yXL_die) B (hts (.codeWith yXL_die cXL_die 3 (some .int) hhXL_die) List.mem_cons_self)
  subst hsz
  have hD := hD0.self (sz := s.heap.size)
  generalize hAe : va_A (pz_LX a cJ cD dk su bl pt py o ov) s.heap.size = A at hD hZ ⊢
  have hA : ∀ q : Nat, s.heap.size ≤ q → A q := fun q h => by rw [← hAe]; exact Or.inr h
  have hS : va_S A s.heap s.heap [] := va_S.rf
  have hl := lv_entry ([.ref (pz_ax a), .int d]) (n := 3) (Nat.le_of_ble_eq_true rfl)
  rw [lg_entry_eq]
  generalize (lg_sl ([.ref (pz_ax a), .int d]) ++ List.replicate (3 - (lg_sl ([.ref (pz_ax a), .int d])).length) Slot.unset).toArray = ls at hl ⊢
  have hl : lv_has ls 3 [(0, .ref (pz_ax a)), (1, .int d)] := hl
  refine lv_aload_n hx hb dXL_die_0 rfl (lv_at hl 0 rfl) ?_
  refine lv_iload_n hx hb dXL_die_1 rfl (lv_at hl 1 rfl) ?_
  have hPc := pz_L_P hP
  have hDc := pz_L_D hD
  have hFc := pz_L_F hD hS hA
  have hZc := (hZ.kept hS.2.1).narrow hFc
  refine vx_callv (vx_runV (As := [.int d]) (rest := []) ⟨hx, hb, hml, hown, hts⟩ (c_XP_die l hl0 dC dI _ a cJ cD dk su bl pt py sa x d hI) (cwV 1 hts (pz_gc (List.mem_cons_of_mem _ tw_280) rfl (pz_gc (List.mem_cons_of_mem _ tw_281) rfl (pz_gc (List.mem_cons_of_mem _ tw_282) rfl (pz_gc (List.mem_cons_of_mem _ tw_1) rfl (pz_gi tcXP_die))))) rfl rfl rfl (by decide +kernel) ⟨Nat.le_of_ble_eq_true rfl, Nat.le_of_ble_eq_true rfl⟩) (pz_preVx (va_recv hK hPc (q0 := 0) rfl rfl) hPc hK hDc hNW hSR hZc) rfl rfl hl.1 rfl (lv_room (Nat.le_of_ble_eq_true rfl)) dXL_die_2 ⟨Nat.le_of_ble_eq_true rfl, Nat.le_of_ble_eq_true rfl⟩) hS (fun q _ h => hFc q h) hFc (fun q _ h => hFc q h) (fun E ce q9 u t H1 locs ht hvm hpx hB hz hk1 hS hcell hcv hcl => ?_) (fun u t H1 locs ht hvm hw hB hz hk1 hS => ?_)
  · obtain ⟨⟨dk1, su1, bl1, pt1, py1⟩, cd⟩ := u
    obtain ⟨⟨hG, hI2⟩, hne⟩ := hpx
    obtain ⟨hE, hP1, hK1, hD1⟩ := hB
    rw [ht] at hP1
    dsimp only at hG hI2 hne hE hP1 hD1
    obtain ⟨hP, hD⟩ := pz_L_J hP hD hk1 hFc hP1 hD1
    generalize H1 = H at hP hS hcell ⊢
    have hcd : cd = 1 ∨ cd = 2 := by have := pz_gD_c x d; omega
    rcases hcd with rfl | rfl
    · obtain rfl : E = "java/lang/IndexOutOfBoundsException" := hE
      refine vx_catch (own := "ParityArrayLaw") (name := "java/lang/IndexOutOfBoundsException") hown [] ⟨0, 5, 8, 15⟩ [⟨0, 5, 11, 13⟩] htab (fun z h => absurd h List.not_mem_nil) (by decide) (by decide) (hts _ (List.mem_cons_of_mem _ tw_100)) (va_Nw.use rfl (hNW _ (List.mem_of_getElem? (i := 14) rfl))) hcell hcv hcl ?_
      refine lv_astore_n hx hb dXL_die_8 rfl hl (by decide) rfl (fun ls hl => ?_)
      have hl : lv_has ls 3 [(2, .ref q9), (0, .ref (pz_ax a)), (1, .int d)] := hl
      refine lv_iconst (v := nI 1) hx hb dXL_die_9 (by decide) ?_
      refine vx_ret ?_
      exact W.iret (v := nI 1) hx hb hr (fun t ht hW => ⟨⟨_, ((dk1, su1, bl1, pt1, py1), ov), rfl, ⟨congrArg nI (Eq.symm hG), hI2⟩, by rw [ht]; exact hP, va_K.moved hW.alike hK, hD⟩, hS.F ht⟩) hS.2.2 dXL_die_10
    · obtain rfl : E = "java/lang/IllegalStateException" := hE
      refine vx_catch (own := "ParityArrayLaw") (name := "java/lang/IllegalStateException") hown [⟨0, 5, 8, 15⟩] ⟨0, 5, 11, 13⟩ [] htab (fun z h => by simp only [List.mem_cons, List.mem_nil_iff, or_false] at h; rcases h with rfl; exact Or.inr ⟨by decide, "java/lang/IndexOutOfBoundsException", hts _ (List.mem_cons_of_mem _ tw_100), hCN.2.2.2⟩) (by decide) (by decide) (hts _ (List.mem_cons_of_mem _ tw_99)) (va_Nw.use rfl (hNW _ (List.mem_of_getElem? (i := 7) rfl))) hcell hcv hcl ?_
      refine lv_astore_n hx hb dXL_die_11 rfl hl (by decide) rfl (fun ls hl => ?_)
      have hl : lv_has ls 3 [(2, .ref q9), (0, .ref (pz_ax a)), (1, .int d)] := hl
      refine lv_iconst (v := nI 2) hx hb dXL_die_12 (by decide) ?_
      refine vx_ret ?_
      exact W.iret (v := nI 2) hx hb hr (fun t ht hW => ⟨⟨_, ((dk1, su1, bl1, pt1, py1), ov), rfl, ⟨congrArg nI (Eq.symm hG), hI2⟩, by rw [ht]; exact hP, va_K.moved hW.alike hK, hD⟩, hS.F ht⟩) hS.2.2 dXL_die_13
  · obtain ⟨dk1, su1, bl1, pt1, py1⟩ := u
    obtain ⟨hP1, hK1, hD1⟩ := hB
    rw [ht] at hP1
    dsimp only at hw hP1 hD1
    obtain ⟨hP, hD⟩ := pz_L_J hP hD hk1 hFc hP1 hD1
    generalize H1 = H at hP hS ⊢
    obtain ⟨hcd, hI2⟩ := hw
    refine lv_goto (tgt := 14) hx hb dXL_die_5 (by decide) ?_
    refine lv_iconst (v := nI 0) hx hb dXL_die_14 (by decide) ?_
    refine vx_ret ?_
    exact W.iret (v := nI 0) hx hb hr (fun t ht hW => ⟨⟨_, ((dk1, su1, bl1, pt1, py1), ov), rfl, ⟨congrArg nI (Eq.symm hcd), hI2⟩, by rw [ht]; exact hP, va_K.moved hW.alike hK, hD⟩, hS.F ht⟩) hS.2.2 dXL_die_15

set_option maxHeartbeats 4000000 in
set_option maxRecDepth 100000 in
theorem c_XL_replace (l : Launch) (hl0 : l.stackTraces = false) (dC : Nat → ClassId) (dI : Nat → Nat → Nat) (sz : Nat) (a : pz_Ad) (cJ cD : ClassId) (dk : Nat → pz_Dk) (su : pz_Su) (bl pt py : Nat → Int64) (o : Nat) (ov : Nat → Int64) (sa : Nat → Nat) (x : pz_Mu) (hI : pz_Inv dk su x) : Met l yXL_replace wsXL_replace ({ frames := 7, cells := 1, slots := 6, locals := 111 }) (va_Pc [.ref (pz_ax a), .ref o] (fun U => U.heap.size = sz ∧ va_P (dC, dI) vwCl (pz_LX a cJ cD dk su bl pt py o ov) U.heap ∧ va_K (dC, dI) vwCl [(cJ, .long), (cD, .object "ParityArray$Disk")] U ∧ va_D (fun _ => True) (pz_LX a cJ cD dk su bl pt py o ov) ∧ pz_NW U ∧ pz_SR sa U ∧ pz_ZS (va_A (pz_LX a cJ cD dk su bl pt py o ov) sz) U U.heap ∧ pz_CN U)) (va_Qi (fun (r : Int32) (u : pz_St × (Nat → Int64)) => r = nI ((pz_gR x).2.2) ∧ ((pz_gR x).2.2 = 0 → u.2 0 = (pz_gR x).1.toInt64) ∧ pz_Inv u.1.1 u.1.2.1 ((pz_gR x).2.1)) (fun u t => va_P (dC, dI) vwCl (pz_LX a cJ cD u.1.1 u.1.2.1 u.1.2.2.1 u.1.2.2.2.1 u.1.2.2.2.2 o u.2) t.heap ∧ va_K (dC, dI) vwCl [(cJ, .long), (cD, .object "ParityArray$Disk")] t ∧ va_D (va_A (pz_LX a cJ cD dk su bl pt py o ov) sz) (pz_LX a cJ cD u.1.1 u.1.2.1 u.1.2.2.1 u.1.2.2.2.1 u.1.2.2.2.2 o u.2)) (va_A (pz_LX a cJ cD dk su bl pt py o ov) sz)) 1 6 (va_A (pz_LX a cJ cD dk su bl pt py o ov) sz) := by
  refine pz_noX ?_
  refine vx_ofWH (cc := cXL_replace) (maxL := 3) (ret := (some .int)) (hh := hhXL_replace) (by decide) rfl ?_
  intro p e s m args below meth c s₁ B hml hv
  obtain ⟨rfl, hsz, hP, hK, hD0, hNW, hSR, hZ, hCN⟩ := hv
  have hx := B.exec
  have hb := B.bytes
  have hr := B.returns
  have hts := atoms_spec (ws := wsXL_replace) B.pre
  have hown : s.vm.findClass "ParityArrayLaw" = some m.cls := findClass_of_methodNamed B.named
  have hlocks := B.notSynchronized
  have htab := vx_table (x := yXL_replace) B (hts (.codeWith yXL_replace cXL_replace 3 (some .int) hhXL_replace) List.mem_cons_self)
  subst hsz
  have hD := hD0.self (sz := s.heap.size)
  generalize hAe : va_A (pz_LX a cJ cD dk su bl pt py o ov) s.heap.size = A at hD hZ ⊢
  have hA : ∀ q : Nat, s.heap.size ≤ q → A q := fun q h => by rw [← hAe]; exact Or.inr h
  have hS : va_S A s.heap s.heap [] := va_S.rf
  have hl := lv_entry ([.ref (pz_ax a), .ref o]) (n := 3) (Nat.le_of_ble_eq_true rfl)
  rw [lg_entry_eq]
  generalize (lg_sl ([.ref (pz_ax a), .ref o]) ++ List.replicate (3 - (lg_sl ([.ref (pz_ax a), .ref o])).length) Slot.unset).toArray = ls at hl ⊢
  have hl : lv_has ls 3 [(0, .ref (pz_ax a)), (1, .ref o)] := hl
  refine lv_aload_n hx hb dXL_replace_0 rfl (lv_at hl 1 rfl) ?_
  refine lv_iconst (v := nI 0) hx hb dXL_replace_1 (by decide) ?_
  refine lv_aload_n hx hb dXL_replace_2 rfl (lv_at hl 0 rfl) ?_
  have hPc := pz_L_P hP
  have hDc := pz_L_D hD
  have hFc := pz_L_F hD hS hA
  have hZc := (hZ.kept hS.2.1).narrow hFc
  refine vx_calli (vx_runV (As := []) (rest := [.int (nI 0), .ref o]) ⟨hx, hb, hml, hown, hts⟩ (c_XP_replace l hl0 dC dI _ a cJ cD dk su bl pt py sa x hI) (cwV 0 hts (pz_gc (List.mem_cons_of_mem _ tw_304) rfl (pz_gc (List.mem_cons_of_mem _ tw_305) rfl (pz_gc (List.mem_cons_of_mem _ tw_306) rfl (pz_gc (List.mem_cons_of_mem _ tw_1) rfl (pz_gi tcXP_replace))))) rfl rfl rfl (by decide +kernel) ⟨Nat.le_of_ble_eq_true rfl, Nat.le_of_ble_eq_true rfl⟩) (pz_preVx (va_recv hK hPc (q0 := 0) rfl rfl) hPc hK hDc hNW hSR hZc) rfl rfl hl.1 rfl (lv_room (Nat.le_of_ble_eq_true rfl)) dXL_replace_3 ⟨Nat.le_of_ble_eq_true rfl, Nat.le_of_ble_eq_true rfl⟩) hS (fun q _ h => hFc q h) hFc (fun q _ h => hFc q h) (fun E ce q9 u t H1 locs ht hvm hpx hB hz hk1 hS hcell hcv hcl => ?_) (fun r u t H1 locs ht hvm hw hB hz hk1 hS => ?_)
  · obtain ⟨⟨dk1, su1, bl1, pt1, py1⟩, cd⟩ := u
    obtain ⟨⟨hG, hI2⟩, hne⟩ := hpx
    obtain ⟨hE, hP1, hK1, hD1⟩ := hB
    rw [ht] at hP1
    dsimp only at hG hI2 hne hE hP1 hD1
    obtain ⟨hP, hD⟩ := pz_L_J hP hD hk1 hFc hP1 hD1
    generalize H1 = H at hP hS hcell ⊢
    have hcd : cd = 1 := by have := pz_gR_c x; omega
    rcases hcd with rfl
    · obtain rfl : E = "java/lang/IllegalStateException" := hE
      refine vx_catch (own := "ParityArrayLaw") (name := "java/lang/IllegalStateException") hown [] ⟨0, 8, 11, 13⟩ [] htab (fun z h => absurd h List.not_mem_nil) (by decide) (by decide) (hts _ (List.mem_cons_of_mem _ tw_99)) (va_Nw.use rfl (hNW _ (List.mem_of_getElem? (i := 7) rfl))) hcell hcv hcl ?_
      refine lv_astore_n hx hb dXL_replace_11 rfl hl (by decide) rfl (fun ls hl => ?_)
      have hl : lv_has ls 3 [(2, .ref q9), (0, .ref (pz_ax a)), (1, .ref o)] := hl
      refine lv_iconst (v := nI 1) hx hb dXL_replace_12 (by decide) ?_
      refine vx_ret ?_
      exact W.iret (v := nI 1) hx hb hr (fun t ht hW => ⟨⟨_, ((dk1, su1, bl1, pt1, py1), ov), rfl, ⟨congrArg nI (Eq.symm hG), fun h9 => absurd ((Eq.symm hG).trans h9) (by decide), hI2⟩, by rw [ht]; exact hP, va_K.moved hW.alike hK, hD⟩, hS.F ht⟩) hS.2.2 dXL_replace_13
  · obtain ⟨dk1, su1, bl1, pt1, py1⟩ := u
    obtain ⟨hP1, hK1, hD1⟩ := hB
    rw [ht] at hP1
    dsimp only at hw hP1 hD1
    obtain ⟨hP, hD⟩ := pz_L_J hP hD hk1 hFc hP1 hD1
    generalize H1 = H at hP hS ⊢
    obtain ⟨hans0, hcd, hI2⟩ := hw; have hans : r.toInt64 = (pz_gR x).1.toInt64 := congrArg Int32.toInt64 hans0
    refine lv_i2l (v := r.toInt64) hx hb dXL_replace_6 rfl ?_
    refine va_last hx hb hK hP hD hS 21 0 rfl rfl (vp_in_nI (by omega) (by decide)) dXL_replace_7 (fun H locs hP hD hS => ?_)
    rw [nI_clamp (show 0 < 2 ^ 31 by omega)] at hP hD
    have hP : va_P (dC, dI) vwCl (pz_LX a cJ cD dk1 su1 bl1 pt1 py1 o (vp_updL ov 0 r.toInt64)) H := hP
    have hD : va_D A (pz_LX a cJ cD dk1 su1 bl1 pt1 py1 o (vp_updL ov 0 r.toInt64)) := hD
    refine lv_goto (tgt := 14) hx hb dXL_replace_8 (by decide) ?_
    refine lv_iconst (v := nI 0) hx hb dXL_replace_14 (by decide) ?_
    refine vx_ret ?_
    exact W.iret (v := nI 0) hx hb hr (fun t ht hW => ⟨⟨_, ((dk1, su1, bl1, pt1, py1), vp_updL ov 0 r.toInt64), rfl, ⟨congrArg nI (Eq.symm hcd), fun _ => Eq.trans (show vp_updL ov 0 r.toInt64 0 = r.toInt64 from pk_uLs) hans, hI2⟩, by rw [ht]; exact hP, va_K.moved hW.alike hK, hD⟩, hS.F ht⟩) hS.2.2 dXL_replace_15

set_option maxHeartbeats 4000000 in
set_option maxRecDepth 100000 in
theorem c_XL_rebuild (l : Launch) (hl0 : l.stackTraces = false) (dC : Nat → ClassId) (dI : Nat → Nat → Nat) (sz : Nat) (a : pz_Ad) (cJ cD : ClassId) (dk : Nat → pz_Dk) (su : pz_Su) (bl pt py : Nat → Int64) (o : Nat) (ov : Nat → Int64) (sa : Nat → Nat) (x : pz_Mu) (hI : pz_Inv dk su x) : Met l yXL_rebuild wsXL_rebuild ({ frames := 7, cells := 1, slots := 6, locals := 152 }) (va_Pc [.ref (pz_ax a), .ref o] (fun U => U.heap.size = sz ∧ va_P (dC, dI) vwCl (pz_LX a cJ cD dk su bl pt py o ov) U.heap ∧ va_K (dC, dI) vwCl [(cJ, .long), (cD, .object "ParityArray$Disk")] U ∧ va_D (fun _ => True) (pz_LX a cJ cD dk su bl pt py o ov) ∧ pz_NW U ∧ pz_SR sa U ∧ pz_ZS (va_A (pz_LX a cJ cD dk su bl pt py o ov) sz) U U.heap ∧ pz_CN U)) (va_Qi (fun (r : Int32) (u : pz_St × (Nat → Int64)) => r = nI ((pz_gB x).2.2) ∧ ((pz_gB x).2.2 = 0 → u.2 0 = (pz_gB x).1.toInt64) ∧ pz_Inv u.1.1 u.1.2.1 ((pz_gB x).2.1)) (fun u t => va_P (dC, dI) vwCl (pz_LX a cJ cD u.1.1 u.1.2.1 u.1.2.2.1 u.1.2.2.2.1 u.1.2.2.2.2 o u.2) t.heap ∧ va_K (dC, dI) vwCl [(cJ, .long), (cD, .object "ParityArray$Disk")] t ∧ va_D (va_A (pz_LX a cJ cD dk su bl pt py o ov) sz) (pz_LX a cJ cD u.1.1 u.1.2.1 u.1.2.2.1 u.1.2.2.2.1 u.1.2.2.2.2 o u.2)) (va_A (pz_LX a cJ cD dk su bl pt py o ov) sz)) 1 6 (va_A (pz_LX a cJ cD dk su bl pt py o ov) sz) := by
  refine pz_noX ?_
  refine vx_ofWH (cc := cXL_rebuild) (maxL := 3) (ret := (some .int)) (hh := hhXL_rebuild) (by decide) rfl ?_
  intro p e s m args below meth c s₁ B hml hv
  obtain ⟨rfl, hsz, hP, hK, hD0, hNW, hSR, hZ, hCN⟩ := hv
  have hx := B.exec
  have hb := B.bytes
  have hr := B.returns
  have hts := atoms_spec (ws := wsXL_rebuild) B.pre
  have hown : s.vm.findClass "ParityArrayLaw" = some m.cls := findClass_of_methodNamed B.named
  have hlocks := B.notSynchronized
  have htab := vx_table (x := yXL_rebuild) B (hts (.codeWith yXL_rebuild cXL_rebuild 3 (some .int) hhXL_rebuild) List.mem_cons_self)
  subst hsz
  have hD := hD0.self (sz := s.heap.size)
  generalize hAe : va_A (pz_LX a cJ cD dk su bl pt py o ov) s.heap.size = A at hD hZ ⊢
  have hA : ∀ q : Nat, s.heap.size ≤ q → A q := fun q h => by rw [← hAe]; exact Or.inr h
  have hS : va_S A s.heap s.heap [] := va_S.rf
  have hl := lv_entry ([.ref (pz_ax a), .ref o]) (n := 3) (Nat.le_of_ble_eq_true rfl)
  rw [lg_entry_eq]
  generalize (lg_sl ([.ref (pz_ax a), .ref o]) ++ List.replicate (3 - (lg_sl ([.ref (pz_ax a), .ref o])).length) Slot.unset).toArray = ls at hl ⊢
  have hl : lv_has ls 3 [(0, .ref (pz_ax a)), (1, .ref o)] := hl
  refine lv_aload_n hx hb dXL_rebuild_0 rfl (lv_at hl 1 rfl) ?_
  refine lv_iconst (v := nI 0) hx hb dXL_rebuild_1 (by decide) ?_
  refine lv_aload_n hx hb dXL_rebuild_2 rfl (lv_at hl 0 rfl) ?_
  have hPc := pz_L_P hP
  have hDc := pz_L_D hD
  have hFc := pz_L_F hD hS hA
  have hZc := (hZ.kept hS.2.1).narrow hFc
  refine vx_calli (vx_runV (As := []) (rest := [.int (nI 0), .ref o]) ⟨hx, hb, hml, hown, hts⟩ (c_XP_rebuild l hl0 dC dI _ a cJ cD dk su bl pt py sa x hI) (cwV 0 hts (pz_gc (List.mem_cons_of_mem _ tw_312) rfl (pz_gc (List.mem_cons_of_mem _ tw_313) rfl (pz_gc (List.mem_cons_of_mem _ tw_314) rfl (pz_gc (List.mem_cons_of_mem _ tw_1) rfl (pz_gi tcXP_rebuild))))) rfl rfl rfl (by decide +kernel) ⟨Nat.le_of_ble_eq_true rfl, Nat.le_of_ble_eq_true rfl⟩) (pz_preVx (va_recv hK hPc (q0 := 0) rfl rfl) hPc hK hDc hNW hSR hZc) rfl rfl hl.1 rfl (lv_room (Nat.le_of_ble_eq_true rfl)) dXL_rebuild_3 ⟨Nat.le_of_ble_eq_true rfl, Nat.le_of_ble_eq_true rfl⟩) hS (fun q _ h => hFc q h) hFc (fun q _ h => hFc q h) (fun E ce q9 u t H1 locs ht hvm hpx hB hz hk1 hS hcell hcv hcl => ?_) (fun r u t H1 locs ht hvm hw hB hz hk1 hS => ?_)
  · obtain ⟨⟨dk1, su1, bl1, pt1, py1⟩, cd⟩ := u
    obtain ⟨⟨hG, hI2⟩, hne⟩ := hpx
    obtain ⟨hE, hP1, hK1, hD1⟩ := hB
    rw [ht] at hP1
    dsimp only at hG hI2 hne hE hP1 hD1
    obtain ⟨hP, hD⟩ := pz_L_J hP hD hk1 hFc hP1 hD1
    generalize H1 = H at hP hS hcell ⊢
    have hcd : cd = 1 := by have := pz_gB_c x; omega
    rcases hcd with rfl
    · obtain rfl : E = "java/lang/IllegalStateException" := hE
      refine vx_catch (own := "ParityArrayLaw") (name := "java/lang/IllegalStateException") hown [] ⟨0, 8, 11, 13⟩ [] htab (fun z h => absurd h List.not_mem_nil) (by decide) (by decide) (hts _ (List.mem_cons_of_mem _ tw_99)) (va_Nw.use rfl (hNW _ (List.mem_of_getElem? (i := 7) rfl))) hcell hcv hcl ?_
      refine lv_astore_n hx hb dXL_rebuild_11 rfl hl (by decide) rfl (fun ls hl => ?_)
      have hl : lv_has ls 3 [(2, .ref q9), (0, .ref (pz_ax a)), (1, .ref o)] := hl
      refine lv_iconst (v := nI 1) hx hb dXL_rebuild_12 (by decide) ?_
      refine vx_ret ?_
      exact W.iret (v := nI 1) hx hb hr (fun t ht hW => ⟨⟨_, ((dk1, su1, bl1, pt1, py1), ov), rfl, ⟨congrArg nI (Eq.symm hG), fun h9 => absurd ((Eq.symm hG).trans h9) (by decide), hI2⟩, by rw [ht]; exact hP, va_K.moved hW.alike hK, hD⟩, hS.F ht⟩) hS.2.2 dXL_rebuild_13
  · obtain ⟨dk1, su1, bl1, pt1, py1⟩ := u
    obtain ⟨hP1, hK1, hD1⟩ := hB
    rw [ht] at hP1
    dsimp only at hw hP1 hD1
    obtain ⟨hP, hD⟩ := pz_L_J hP hD hk1 hFc hP1 hD1
    generalize H1 = H at hP hS ⊢
    obtain ⟨hans0, hcd, hI2⟩ := hw; have hans : r.toInt64 = (pz_gB x).1.toInt64 := congrArg Int32.toInt64 hans0
    refine lv_i2l (v := r.toInt64) hx hb dXL_rebuild_6 rfl ?_
    refine va_last hx hb hK hP hD hS 21 0 rfl rfl (vp_in_nI (by omega) (by decide)) dXL_rebuild_7 (fun H locs hP hD hS => ?_)
    rw [nI_clamp (show 0 < 2 ^ 31 by omega)] at hP hD
    have hP : va_P (dC, dI) vwCl (pz_LX a cJ cD dk1 su1 bl1 pt1 py1 o (vp_updL ov 0 r.toInt64)) H := hP
    have hD : va_D A (pz_LX a cJ cD dk1 su1 bl1 pt1 py1 o (vp_updL ov 0 r.toInt64)) := hD
    refine lv_goto (tgt := 14) hx hb dXL_rebuild_8 (by decide) ?_
    refine lv_iconst (v := nI 0) hx hb dXL_rebuild_14 (by decide) ?_
    refine vx_ret ?_
    exact W.iret (v := nI 0) hx hb hr (fun t ht hW => ⟨⟨_, ((dk1, su1, bl1, pt1, py1), vp_updL ov 0 r.toInt64), rfl, ⟨congrArg nI (Eq.symm hcd), fun _ => Eq.trans (show vp_updL ov 0 r.toInt64 0 = r.toInt64 from pk_uLs) hans, hI2⟩, by rw [ht]; exact hP, va_K.moved hW.alike hK, hD⟩, hS.F ht⟩) hS.2.2 dXL_rebuild_15

set_option maxHeartbeats 4000000 in
set_option maxRecDepth 100000 in
theorem c_XL_power (l : Launch) (hl0 : l.stackTraces = false) (dC : Nat → ClassId) (dI : Nat → Nat → Nat) (sz : Nat) (a : pz_Ad) (cJ cD : ClassId) (dk : Nat → pz_Dk) (su : pz_Su) (bl pt py : Nat → Int64) (o : Nat) (ov : Nat → Int64) (sa : Nat → Nat) (x : pz_Mu) (k b : Int32) (r0 : Bool) (hI : pz_Inv dk su x) : Met l yXL_power wsXL_power ({ frames := 7, cells := 1, slots := 6, locals := 113 }) (va_Pc [.ref (pz_ax a), .int k, .int b, .int (pz_b r0)] (fun U => U.heap.size = sz ∧ va_P (dC, dI) vwCl (pz_LX a cJ cD dk su bl pt py o ov) U.heap ∧ va_K (dC, dI) vwCl [(cJ, .long), (cD, .object "ParityArray$Disk")] U ∧ va_D (fun _ => True) (pz_LX a cJ cD dk su bl pt py o ov) ∧ pz_NW U ∧ pz_SR sa U ∧ pz_ZS (va_A (pz_LX a cJ cD dk su bl pt py o ov) sz) U U.heap ∧ pz_CN U)) (va_Qi (fun (r : Int32) (u : pz_St × (Nat → Int64)) => r = nI ((pz_gP x k b r0).2) ∧ pz_Inv u.1.1 u.1.2.1 ((pz_gP x k b r0).1)) (fun u t => va_P (dC, dI) vwCl (pz_LX a cJ cD u.1.1 u.1.2.1 u.1.2.2.1 u.1.2.2.2.1 u.1.2.2.2.2 o u.2) t.heap ∧ va_K (dC, dI) vwCl [(cJ, .long), (cD, .object "ParityArray$Disk")] t ∧ va_D (va_A (pz_LX a cJ cD dk su bl pt py o ov) sz) (pz_LX a cJ cD u.1.1 u.1.2.1 u.1.2.2.1 u.1.2.2.2.1 u.1.2.2.2.2 o u.2)) (va_A (pz_LX a cJ cD dk su bl pt py o ov) sz)) 1 6 (va_A (pz_LX a cJ cD dk su bl pt py o ov) sz) := by
  refine pz_noX ?_
  refine vx_ofWH (cc := cXL_power) (maxL := 5) (ret := (some .int)) (hh := hhXL_power) (by decide) rfl ?_
  intro p e s m args below meth c s₁ B hml hv
  obtain ⟨rfl, hsz, hP, hK, hD0, hNW, hSR, hZ, hCN⟩ := hv
  have hx := B.exec
  have hb := B.bytes
  have hr := B.returns
  have hts := atoms_spec (ws := wsXL_power) B.pre
  have hown : s.vm.findClass "ParityArrayLaw" = some m.cls := findClass_of_methodNamed B.named
  have hlocks := B.notSynchronized
  have htab := vx_table (x := yXL_power) B (hts (.codeWith yXL_power cXL_power 5 (some .int) hhXL_power) List.mem_cons_self)
  subst hsz
  have hD := hD0.self (sz := s.heap.size)
  generalize hAe : va_A (pz_LX a cJ cD dk su bl pt py o ov) s.heap.size = A at hD hZ ⊢
  have hA : ∀ q : Nat, s.heap.size ≤ q → A q := fun q h => by rw [← hAe]; exact Or.inr h
  have hS : va_S A s.heap s.heap [] := va_S.rf
  have hl := lv_entry ([.ref (pz_ax a), .int k, .int b, .int (pz_b r0)]) (n := 5) (Nat.le_of_ble_eq_true rfl)
  rw [lg_entry_eq]
  generalize (lg_sl ([.ref (pz_ax a), .int k, .int b, .int (pz_b r0)]) ++ List.replicate (5 - (lg_sl ([.ref (pz_ax a), .int k, .int b, .int (pz_b r0)])).length) Slot.unset).toArray = ls at hl ⊢
  have hl : lv_has ls 5 [(0, .ref (pz_ax a)), (1, .int k), (2, .int b), (3, .int (pz_b r0))] := hl
  refine lv_aload_n hx hb dXL_power_0 rfl (lv_at hl 0 rfl) ?_
  refine lv_iload_n hx hb dXL_power_1 rfl (lv_at hl 1 rfl) ?_
  refine lv_iload_n hx hb dXL_power_2 rfl (lv_at hl 2 rfl) ?_
  refine lv_iload_n hx hb dXL_power_3 rfl (lv_at hl 3 rfl) ?_
  have hPc := pz_L_P hP
  have hDc := pz_L_D hD
  have hFc := pz_L_F hD hS hA
  have hZc := (hZ.kept hS.2.1).narrow hFc
  refine vx_callv (vx_runV (As := [.int k, .int b, .int (pz_b r0)]) (rest := []) ⟨hx, hb, hml, hown, hts⟩ (c_XP_power l hl0 dC dI _ a cJ cD dk su bl pt py sa x k b r0 hI) (cwV 3 hts (pz_gc (List.mem_cons_of_mem _ tw_325) rfl (pz_gc (List.mem_cons_of_mem _ tw_326) rfl (pz_gc (List.mem_cons_of_mem _ tw_327) rfl (pz_gc (List.mem_cons_of_mem _ tw_1) rfl (pz_gi tcXP_power))))) rfl rfl rfl (by decide +kernel) ⟨Nat.le_of_ble_eq_true rfl, Nat.le_of_ble_eq_true rfl⟩) (pz_preVx (va_recv hK hPc (q0 := 0) rfl rfl) hPc hK hDc hNW hSR hZc) rfl rfl hl.1 rfl (lv_room (Nat.le_of_ble_eq_true rfl)) dXL_power_4 ⟨Nat.le_of_ble_eq_true rfl, Nat.le_of_ble_eq_true rfl⟩) hS (fun q _ h => hFc q h) hFc (fun q _ h => hFc q h) (fun E ce q9 u t H1 locs ht hvm hpx hB hz hk1 hS hcell hcv hcl => ?_) (fun u t H1 locs ht hvm hw hB hz hk1 hS => ?_)
  · obtain ⟨⟨dk1, su1, bl1, pt1, py1⟩, cd⟩ := u
    obtain ⟨⟨hG, hI2⟩, hne⟩ := hpx
    obtain ⟨hE, hP1, hK1, hD1⟩ := hB
    rw [ht] at hP1
    dsimp only at hG hI2 hne hE hP1 hD1
    obtain ⟨hP, hD⟩ := pz_L_J hP hD hk1 hFc hP1 hD1
    generalize H1 = H at hP hS hcell ⊢
    have hcd : cd = 1 := by have := pz_gP_c x k b r0; omega
    rcases hcd with rfl
    · obtain rfl : E = "java/lang/IllegalArgumentException" := hE
      refine vx_catch (own := "ParityArrayLaw") (name := "java/lang/IllegalArgumentException") hown [] ⟨0, 7, 10, 38⟩ [] htab (fun z h => absurd h List.not_mem_nil) (by decide) (by decide) (hts _ (List.mem_cons_of_mem _ tw_324)) (va_Nw.use rfl (hNW _ (List.mem_of_getElem? (i := 16) rfl))) hcell hcv hcl ?_
      refine lv_astore hx hb dXL_power_10 hl (by decide) rfl (fun ls hl => ?_)
      have hl : lv_has ls 5 [(4, .ref q9), (0, .ref (pz_ax a)), (1, .int k), (2, .int b), (3, .int (pz_b r0))] := hl
      refine lv_iconst (v := nI 1) hx hb dXL_power_12 (by decide) ?_
      refine vx_ret ?_
      exact W.iret (v := nI 1) hx hb hr (fun t ht hW => ⟨⟨_, ((dk1, su1, bl1, pt1, py1), ov), rfl, ⟨congrArg nI (Eq.symm hG), hI2⟩, by rw [ht]; exact hP, va_K.moved hW.alike hK, hD⟩, hS.F ht⟩) hS.2.2 dXL_power_13
  · obtain ⟨dk1, su1, bl1, pt1, py1⟩ := u
    obtain ⟨hP1, hK1, hD1⟩ := hB
    rw [ht] at hP1
    dsimp only at hw hP1 hD1
    obtain ⟨hP, hD⟩ := pz_L_J hP hD hk1 hFc hP1 hD1
    generalize H1 = H at hP hS ⊢
    obtain ⟨hcd, hI2⟩ := hw
    refine lv_goto (tgt := 14) hx hb dXL_power_7 (by decide) ?_
    refine lv_iconst (v := nI 0) hx hb dXL_power_14 (by decide) ?_
    refine vx_ret ?_
    exact W.iret (v := nI 0) hx hb hr (fun t ht hW => ⟨⟨_, ((dk1, su1, bl1, pt1, py1), ov), rfl, ⟨congrArg nI (Eq.symm hcd), hI2⟩, by rw [ht]; exact hP, va_K.moved hW.alike hK, hD⟩, hS.F ht⟩) hS.2.2 dXL_power_15

set_option maxHeartbeats 4000000 in
set_option maxRecDepth 100000 in
theorem c_XL_recover (l : Launch) (hl0 : l.stackTraces = false) (dC : Nat → ClassId) (dI : Nat → Nat → Nat) (sz : Nat) (a : pz_Ad) (cJ cD : ClassId) (dk : Nat → pz_Dk) (su : pz_Su) (bl pt py : Nat → Int64) (o : Nat) (ov : Nat → Int64) (sa : Nat → Nat) (x : pz_Mu) (hI : pz_Inv dk su x) : Met l yXL_recover wsXL_recover ({ frames := 7, cells := 1, slots := 6, locals := 154 }) (va_Pc [.ref (pz_ax a)] (fun U => U.heap.size = sz ∧ va_P (dC, dI) vwCl (pz_LX a cJ cD dk su bl pt py o ov) U.heap ∧ va_K (dC, dI) vwCl [(cJ, .long), (cD, .object "ParityArray$Disk")] U ∧ va_D (fun _ => True) (pz_LX a cJ cD dk su bl pt py o ov) ∧ pz_NW U ∧ pz_SR sa U ∧ pz_ZS (va_A (pz_LX a cJ cD dk su bl pt py o ov) sz) U U.heap ∧ pz_CN U)) (va_Qi (fun (r : Int32) (u : pz_St × (Nat → Int64)) => r = nI (if pz_mF x = 2 then 1 else 0) ∧ pz_Inv u.1.1 u.1.2.1 (pz_mrec x)) (fun u t => va_P (dC, dI) vwCl (pz_LX a cJ cD u.1.1 u.1.2.1 u.1.2.2.1 u.1.2.2.2.1 u.1.2.2.2.2 o u.2) t.heap ∧ va_K (dC, dI) vwCl [(cJ, .long), (cD, .object "ParityArray$Disk")] t ∧ va_D (va_A (pz_LX a cJ cD dk su bl pt py o ov) sz) (pz_LX a cJ cD u.1.1 u.1.2.1 u.1.2.2.1 u.1.2.2.2.1 u.1.2.2.2.2 o u.2)) (va_A (pz_LX a cJ cD dk su bl pt py o ov) sz)) 1 6 (va_A (pz_LX a cJ cD dk su bl pt py o ov) sz) := by
  refine pz_noX ?_
  refine vx_ofWH (cc := cXL_recover) (maxL := 2) (ret := (some .int)) (hh := hhXL_recover) (by decide) rfl ?_
  intro p e s m args below meth c s₁ B hml hv
  obtain ⟨rfl, hsz, hP, hK, hD0, hNW, hSR, hZ, hCN⟩ := hv
  have hx := B.exec
  have hb := B.bytes
  have hr := B.returns
  have hts := atoms_spec (ws := wsXL_recover) B.pre
  have hown : s.vm.findClass "ParityArrayLaw" = some m.cls := findClass_of_methodNamed B.named
  have hlocks := B.notSynchronized
  have htab := vx_table (x := yXL_recover) B (hts (.codeWith yXL_recover cXL_recover 2 (some .int) hhXL_recover) List.mem_cons_self)
  subst hsz
  have hD := hD0.self (sz := s.heap.size)
  generalize hAe : va_A (pz_LX a cJ cD dk su bl pt py o ov) s.heap.size = A at hD hZ ⊢
  have hA : ∀ q : Nat, s.heap.size ≤ q → A q := fun q h => by rw [← hAe]; exact Or.inr h
  have hS : va_S A s.heap s.heap [] := va_S.rf
  have hl := lv_entry ([.ref (pz_ax a)]) (n := 2) (Nat.le_of_ble_eq_true rfl)
  rw [lg_entry_eq]
  generalize (lg_sl ([.ref (pz_ax a)]) ++ List.replicate (2 - (lg_sl ([.ref (pz_ax a)])).length) Slot.unset).toArray = ls at hl ⊢
  have hl : lv_has ls 2 [(0, .ref (pz_ax a))] := hl
  refine lv_aload_n hx hb dXL_recover_0 rfl (lv_at hl 0 rfl) ?_
  have hPc := pz_L_P hP
  have hDc := pz_L_D hD
  have hFc := pz_L_F hD hS hA
  have hZc := (hZ.kept hS.2.1).narrow hFc
  refine vx_callv (vx_runV (As := []) (rest := []) ⟨hx, hb, hml, hown, hts⟩ (c_XP_recover l hl0 dC dI _ a cJ cD dk su bl pt py sa x hI) (cwV 0 hts (pz_gc (List.mem_cons_of_mem _ tw_353) rfl (pz_gc (List.mem_cons_of_mem _ tw_354) rfl (pz_gc (List.mem_cons_of_mem _ tw_355) rfl (pz_gc (List.mem_cons_of_mem _ tw_1) rfl (pz_gi tcXP_recover))))) rfl rfl rfl (by decide +kernel) ⟨Nat.le_of_ble_eq_true rfl, Nat.le_of_ble_eq_true rfl⟩) (pz_preVx (va_recv hK hPc (q0 := 0) rfl rfl) hPc hK hDc hNW hSR hZc) rfl rfl hl.1 rfl (lv_room (Nat.le_of_ble_eq_true rfl)) dXL_recover_1 ⟨Nat.le_of_ble_eq_true rfl, Nat.le_of_ble_eq_true rfl⟩) hS (fun q _ h => hFc q h) hFc (fun q _ h => hFc q h) (fun E ce q9 u t H1 locs ht hvm hpx hB hz hk1 hS hcell hcv hcl => ?_) (fun u t H1 locs ht hvm hw hB hz hk1 hS => ?_)
  · obtain ⟨⟨dk1, su1, bl1, pt1, py1⟩, cd⟩ := u
    obtain ⟨⟨hG, hI2⟩, hne⟩ := hpx
    obtain ⟨hE, hP1, hK1, hD1⟩ := hB
    rw [ht] at hP1
    dsimp only at hG hI2 hne hE hP1 hD1
    obtain ⟨hP, hD⟩ := pz_L_J hP hD hk1 hFc hP1 hD1
    generalize H1 = H at hP hS hcell ⊢
    have hcd : cd = 1 := by have h9 : (if pz_mF x = 2 then 1 else 0) ≤ 1 := (by split <;> omega); omega
    rcases hcd with rfl
    · obtain rfl : E = "java/lang/ArithmeticException" := hE
      refine vx_catch (own := "ParityArrayLaw") (name := "java/lang/ArithmeticException") hown [] ⟨0, 4, 7, 17⟩ [] htab (fun z h => absurd h List.not_mem_nil) (by decide) (by decide) (hts _ (List.mem_cons_of_mem _ tw_101)) (va_Nw.use rfl (hNW _ (List.mem_of_getElem? (i := 15) rfl))) hcell hcv hcl ?_
      refine lv_astore_n hx hb dXL_recover_7 rfl hl (by decide) rfl (fun ls hl => ?_)
      have hl : lv_has ls 2 [(1, .ref q9), (0, .ref (pz_ax a))] := hl
      refine lv_iconst (v := nI 1) hx hb dXL_recover_8 (by decide) ?_
      refine vx_ret ?_
      exact W.iret (v := nI 1) hx hb hr (fun t ht hW => ⟨⟨_, ((dk1, su1, bl1, pt1, py1), ov), rfl, ⟨congrArg nI (Eq.symm hG), hI2⟩, by rw [ht]; exact hP, va_K.moved hW.alike hK, hD⟩, hS.F ht⟩) hS.2.2 dXL_recover_9
  · obtain ⟨dk1, su1, bl1, pt1, py1⟩ := u
    obtain ⟨hP1, hK1, hD1⟩ := hB
    rw [ht] at hP1
    dsimp only at hw hP1 hD1
    obtain ⟨hP, hD⟩ := pz_L_J hP hD hk1 hFc hP1 hD1
    generalize H1 = H at hP hS ⊢
    obtain ⟨hcd, hI2⟩ := hw
    refine lv_goto (tgt := 10) hx hb dXL_recover_4 (by decide) ?_
    refine lv_iconst (v := nI 0) hx hb dXL_recover_10 (by decide) ?_
    refine vx_ret ?_
    exact W.iret (v := nI 0) hx hb hr (fun t ht hW => ⟨⟨_, ((dk1, su1, bl1, pt1, py1), ov), rfl, ⟨congrArg nI (Eq.symm hcd), hI2⟩, by rw [ht]; exact hP, va_K.moved hW.alike hK, hD⟩, hS.F ht⟩) hS.2.2 dXL_recover_11

set_option maxHeartbeats 4000000 in
set_option maxRecDepth 100000 in
theorem c_XL_told (l : Launch) (hl0 : l.stackTraces = false) (dC : Nat → ClassId) (dI : Nat → Nat → Nat) (sz : Nat) (a : pz_Ad) (cJ cD : ClassId) (dk : Nat → pz_Dk) (su : pz_Su) (bl pt py : Nat → Int64) (o : Nat) (ov : Nat → Int64) (sa : Nat → Nat) (x : pz_Mu) (w0 : Int32) (hI : pz_Inv dk su x) : Met l yXL_told wsXL_told ({ frames := 7, cells := 1, slots := 6, locals := 112 }) (va_Pc [.ref (pz_ax a), .int w0, .ref o] (fun U => U.heap.size = sz ∧ va_P (dC, dI) vwCl (pz_LX a cJ cD dk su bl pt py o ov) U.heap ∧ va_K (dC, dI) vwCl [(cJ, .long), (cD, .object "ParityArray$Disk")] U ∧ va_D (fun _ => True) (pz_LX a cJ cD dk su bl pt py o ov) ∧ pz_NW U ∧ pz_SR sa U ∧ pz_ZS (va_A (pz_LX a cJ cD dk su bl pt py o ov) sz) U U.heap ∧ pz_CN U)) (va_Qi (fun (r : Int32) (u : pz_St × (Nat → Int64)) => r = nI ((pz_gT x w0).2) ∧ ((pz_gT x w0).2 = 0 → u.2 0 = (pz_gT x w0).1.toInt64) ∧ pz_Inv u.1.1 u.1.2.1 x) (fun u t => va_P (dC, dI) vwCl (pz_LX a cJ cD u.1.1 u.1.2.1 u.1.2.2.1 u.1.2.2.2.1 u.1.2.2.2.2 o u.2) t.heap ∧ va_K (dC, dI) vwCl [(cJ, .long), (cD, .object "ParityArray$Disk")] t ∧ va_D (va_A (pz_LX a cJ cD dk su bl pt py o ov) sz) (pz_LX a cJ cD u.1.1 u.1.2.1 u.1.2.2.1 u.1.2.2.2.1 u.1.2.2.2.2 o u.2)) (va_A (pz_LX a cJ cD dk su bl pt py o ov) sz)) 1 6 (va_A (pz_LX a cJ cD dk su bl pt py o ov) sz) := by
  refine pz_noX ?_
  refine vx_ofWH (cc := cXL_told) (maxL := 4) (ret := (some .int)) (hh := hhXL_told) (by decide) rfl ?_
  intro p e s m args below meth c s₁ B hml hv
  obtain ⟨rfl, hsz, hP, hK, hD0, hNW, hSR, hZ, hCN⟩ := hv
  have hx := B.exec
  have hb := B.bytes
  have hr := B.returns
  have hts := atoms_spec (ws := wsXL_told) B.pre
  have hown : s.vm.findClass "ParityArrayLaw" = some m.cls := findClass_of_methodNamed B.named
  have hlocks := B.notSynchronized
  have htab := vx_table (x := yXL_told) B (hts (.codeWith yXL_told cXL_told 4 (some .int) hhXL_told) List.mem_cons_self)
  subst hsz
  have hD := hD0.self (sz := s.heap.size)
  generalize hAe : va_A (pz_LX a cJ cD dk su bl pt py o ov) s.heap.size = A at hD hZ ⊢
  have hA : ∀ q : Nat, s.heap.size ≤ q → A q := fun q h => by rw [← hAe]; exact Or.inr h
  have hS : va_S A s.heap s.heap [] := va_S.rf
  have hl := lv_entry ([.ref (pz_ax a), .int w0, .ref o]) (n := 4) (Nat.le_of_ble_eq_true rfl)
  rw [lg_entry_eq]
  generalize (lg_sl ([.ref (pz_ax a), .int w0, .ref o]) ++ List.replicate (4 - (lg_sl ([.ref (pz_ax a), .int w0, .ref o])).length) Slot.unset).toArray = ls at hl ⊢
  have hl : lv_has ls 4 [(0, .ref (pz_ax a)), (1, .int w0), (2, .ref o)] := hl
  refine lv_aload_n hx hb dXL_told_0 rfl (lv_at hl 2 rfl) ?_
  refine lv_iconst (v := nI 0) hx hb dXL_told_1 (by decide) ?_
  refine lv_aload_n hx hb dXL_told_2 rfl (lv_at hl 0 rfl) ?_
  refine lv_iload_n hx hb dXL_told_3 rfl (lv_at hl 1 rfl) ?_
  have hPc := pz_L_P hP
  have hDc := pz_L_D hD
  have hFc := pz_L_F hD hS hA
  have hZc := (hZ.kept hS.2.1).narrow hFc
  refine vx_calli (vx_runV (As := [.int w0]) (rest := [.int (nI 0), .ref o]) ⟨hx, hb, hml, hown, hts⟩ (c_XP_told l hl0 dC dI _ a cJ cD dk su bl pt py sa x w0 hI) (cwV 1 hts (pz_gc (List.mem_cons_of_mem _ tw_368) rfl (pz_gc (List.mem_cons_of_mem _ tw_369) rfl (pz_gc (List.mem_cons_of_mem _ tw_370) rfl (pz_gc (List.mem_cons_of_mem _ tw_1) rfl (pz_gi tcXP_told))))) rfl rfl rfl (by decide +kernel) ⟨Nat.le_of_ble_eq_true rfl, Nat.le_of_ble_eq_true rfl⟩) (pz_preVx (va_recv hK hPc (q0 := 0) rfl rfl) hPc hK hDc hNW hSR hZc) rfl rfl hl.1 rfl (lv_room (Nat.le_of_ble_eq_true rfl)) dXL_told_4 ⟨Nat.le_of_ble_eq_true rfl, Nat.le_of_ble_eq_true rfl⟩) hS (fun q _ h => hFc q h) hFc (fun q _ h => hFc q h) (fun E ce q9 u t H1 locs ht hvm hpx hB hz hk1 hS hcell hcv hcl => ?_) (fun r u t H1 locs ht hvm hw hB hz hk1 hS => ?_)
  · obtain ⟨⟨dk1, su1, bl1, pt1, py1⟩, cd⟩ := u
    obtain ⟨⟨hG, hI2⟩, hne⟩ := hpx
    obtain ⟨hE, hP1, hK1, hD1⟩ := hB
    rw [ht] at hP1
    dsimp only at hG hI2 hne hE hP1 hD1
    obtain ⟨hP, hD⟩ := pz_L_J hP hD hk1 hFc hP1 hD1
    generalize H1 = H at hP hS hcell ⊢
    have hcd : cd = 1 := by have := pz_gT_c x w0; omega
    rcases hcd with rfl
    · obtain rfl : E = "java/lang/IllegalArgumentException" := hE
      refine vx_catch (own := "ParityArrayLaw") (name := "java/lang/IllegalArgumentException") hown [] ⟨0, 9, 12, 38⟩ [] htab (fun z h => absurd h List.not_mem_nil) (by decide) (by decide) (hts _ (List.mem_cons_of_mem _ tw_324)) (va_Nw.use rfl (hNW _ (List.mem_of_getElem? (i := 16) rfl))) hcell hcv hcl ?_
      refine lv_astore_n hx hb dXL_told_12 rfl hl (by decide) rfl (fun ls hl => ?_)
      have hl : lv_has ls 4 [(3, .ref q9), (0, .ref (pz_ax a)), (1, .int w0), (2, .ref o)] := hl
      refine lv_iconst (v := nI 1) hx hb dXL_told_13 (by decide) ?_
      refine vx_ret ?_
      exact W.iret (v := nI 1) hx hb hr (fun t ht hW => ⟨⟨_, ((dk1, su1, bl1, pt1, py1), ov), rfl, ⟨congrArg nI (Eq.symm hG), fun h9 => absurd ((Eq.symm hG).trans h9) (by decide), hI2⟩, by rw [ht]; exact hP, va_K.moved hW.alike hK, hD⟩, hS.F ht⟩) hS.2.2 dXL_told_14
  · obtain ⟨dk1, su1, bl1, pt1, py1⟩ := u
    obtain ⟨hP1, hK1, hD1⟩ := hB
    rw [ht] at hP1
    dsimp only at hw hP1 hD1
    obtain ⟨hP, hD⟩ := pz_L_J hP hD hk1 hFc hP1 hD1
    generalize H1 = H at hP hS ⊢
    obtain ⟨hg, hI2⟩ := hw; have hcd : (pz_gT x w0).2 = 0 := (congrArg Prod.snd hg).symm; have hans : r.toInt64 = (pz_gT x w0).1.toInt64 := congrArg Int32.toInt64 (congrArg Prod.fst hg)
    refine lv_i2l (v := r.toInt64) hx hb dXL_told_7 rfl ?_
    refine va_last hx hb hK hP hD hS 21 0 rfl rfl (vp_in_nI (by omega) (by decide)) dXL_told_8 (fun H locs hP hD hS => ?_)
    rw [nI_clamp (show 0 < 2 ^ 31 by omega)] at hP hD
    have hP : va_P (dC, dI) vwCl (pz_LX a cJ cD dk1 su1 bl1 pt1 py1 o (vp_updL ov 0 r.toInt64)) H := hP
    have hD : va_D A (pz_LX a cJ cD dk1 su1 bl1 pt1 py1 o (vp_updL ov 0 r.toInt64)) := hD
    refine lv_goto (tgt := 15) hx hb dXL_told_9 (by decide) ?_
    refine lv_iconst (v := nI 0) hx hb dXL_told_15 (by decide) ?_
    refine vx_ret ?_
    exact W.iret (v := nI 0) hx hb hr (fun t ht hW => ⟨⟨_, ((dk1, su1, bl1, pt1, py1), vp_updL ov 0 r.toInt64), rfl, ⟨congrArg nI (Eq.symm hcd), fun _ => Eq.trans (show vp_updL ov 0 r.toInt64 0 = r.toInt64 from pk_uLs) hans, hI2⟩, by rw [ht]; exact hP, va_K.moved hW.alike hK, hD⟩, hS.F ht⟩) hS.2.2 dXL_told_16

set_option maxHeartbeats 4000000 in
set_option maxRecDepth 100000 in
theorem c_XL_check (l : Launch) (hl0 : l.stackTraces = false) (dC : Nat → ClassId) (dI : Nat → Nat → Nat) (sz : Nat) (a : pz_Ad) (cJ cD : ClassId) (dk : Nat → pz_Dk) (su : pz_Su) (bl pt py : Nat → Int64) (o : Nat) (ov : Nat → Int64) (sa : Nat → Nat) (x : pz_Mu) (hI : pz_Inv dk su x) : Met l yXL_check wsXL_check ({ frames := 7, cells := 1, slots := 6, locals := 112 }) (va_Pc [.ref (pz_ax a), .ref o] (fun U => U.heap.size = sz ∧ va_P (dC, dI) vwCl (pz_LX a cJ cD dk su bl pt py o ov) U.heap ∧ va_K (dC, dI) vwCl [(cJ, .long), (cD, .object "ParityArray$Disk")] U ∧ va_D (fun _ => True) (pz_LX a cJ cD dk su bl pt py o ov) ∧ pz_NW U ∧ pz_SR sa U ∧ pz_ZS (va_A (pz_LX a cJ cD dk su bl pt py o ov) sz) U U.heap ∧ pz_CN U)) (va_Qi (fun (r : Int32) (u : pz_St × (Nat → Int64)) => r = nI (if pz_mo x = true then 0 else 1) ∧ ((if pz_mo x = true then 0 else 1) = 0 → u.2 0 = (nI 0).toInt64) ∧ pz_Inv u.1.1 u.1.2.1 x) (fun u t => va_P (dC, dI) vwCl (pz_LX a cJ cD u.1.1 u.1.2.1 u.1.2.2.1 u.1.2.2.2.1 u.1.2.2.2.2 o u.2) t.heap ∧ va_K (dC, dI) vwCl [(cJ, .long), (cD, .object "ParityArray$Disk")] t ∧ va_D (va_A (pz_LX a cJ cD dk su bl pt py o ov) sz) (pz_LX a cJ cD u.1.1 u.1.2.1 u.1.2.2.1 u.1.2.2.2.1 u.1.2.2.2.2 o u.2)) (va_A (pz_LX a cJ cD dk su bl pt py o ov) sz)) 1 6 (va_A (pz_LX a cJ cD dk su bl pt py o ov) sz) := by
  refine pz_noX ?_
  refine vx_ofWH (cc := cXL_check) (maxL := 3) (ret := (some .int)) (hh := hhXL_check) (by decide) rfl ?_
  intro p e s m args below meth c s₁ B hml hv
  obtain ⟨rfl, hsz, hP, hK, hD0, hNW, hSR, hZ, hCN⟩ := hv
  have hx := B.exec
  have hb := B.bytes
  have hr := B.returns
  have hts := atoms_spec (ws := wsXL_check) B.pre
  have hown : s.vm.findClass "ParityArrayLaw" = some m.cls := findClass_of_methodNamed B.named
  have hlocks := B.notSynchronized
  have htab := vx_table (x := yXL_check) B (hts (.codeWith yXL_check cXL_check 3 (some .int) hhXL_check) List.mem_cons_self)
  subst hsz
  have hD := hD0.self (sz := s.heap.size)
  generalize hAe : va_A (pz_LX a cJ cD dk su bl pt py o ov) s.heap.size = A at hD hZ ⊢
  have hA : ∀ q : Nat, s.heap.size ≤ q → A q := fun q h => by rw [← hAe]; exact Or.inr h
  have hS : va_S A s.heap s.heap [] := va_S.rf
  have hl := lv_entry ([.ref (pz_ax a), .ref o]) (n := 3) (Nat.le_of_ble_eq_true rfl)
  rw [lg_entry_eq]
  generalize (lg_sl ([.ref (pz_ax a), .ref o]) ++ List.replicate (3 - (lg_sl ([.ref (pz_ax a), .ref o])).length) Slot.unset).toArray = ls at hl ⊢
  have hl : lv_has ls 3 [(0, .ref (pz_ax a)), (1, .ref o)] := hl
  refine lv_aload_n hx hb dXL_check_0 rfl (lv_at hl 1 rfl) ?_
  refine lv_iconst (v := nI 0) hx hb dXL_check_1 (by decide) ?_
  refine lv_aload_n hx hb dXL_check_2 rfl (lv_at hl 0 rfl) ?_
  have hPc := pz_L_P hP
  have hDc := pz_L_D hD
  have hFc := pz_L_F hD hS hA
  have hZc := (hZ.kept hS.2.1).narrow hFc
  refine vx_calli (vx_runV (As := []) (rest := [.int (nI 0), .ref o]) ⟨hx, hb, hml, hown, hts⟩ (c_XP_check l hl0 dC dI _ a cJ cD dk su bl pt py sa x hI) (cwV 0 hts (pz_gc (List.mem_cons_of_mem _ tw_376) rfl (pz_gc (List.mem_cons_of_mem _ tw_377) rfl (pz_gc (List.mem_cons_of_mem _ tw_378) rfl (pz_gc (List.mem_cons_of_mem _ tw_1) rfl (pz_gi tcXP_check))))) rfl rfl rfl (by decide +kernel) ⟨Nat.le_of_ble_eq_true rfl, Nat.le_of_ble_eq_true rfl⟩) (pz_preVx (va_recv hK hPc (q0 := 0) rfl rfl) hPc hK hDc hNW hSR hZc) rfl rfl hl.1 rfl (lv_room (Nat.le_of_ble_eq_true rfl)) dXL_check_3 ⟨Nat.le_of_ble_eq_true rfl, Nat.le_of_ble_eq_true rfl⟩) hS (fun q _ h => hFc q h) hFc (fun q _ h => hFc q h) (fun E ce q9 u t H1 locs ht hvm hpx hB hz hk1 hS hcell hcv hcl => ?_) (fun r u t H1 locs ht hvm hw hB hz hk1 hS => ?_)
  · obtain ⟨⟨dk1, su1, bl1, pt1, py1⟩, cd⟩ := u
    obtain ⟨⟨hcd0, hmo, hI2⟩, hne⟩ := hpx
    have hG : (if pz_mo x = true then 0 else 1) = 1 := by rw [hmo]; rfl
    obtain ⟨hE, hP1, hK1, hD1⟩ := hB
    rw [ht] at hP1
    dsimp only at hG hI2 hne hE hP1 hD1
    obtain ⟨hP, hD⟩ := pz_L_J hP hD hk1 hFc hP1 hD1
    generalize H1 = H at hP hS hcell ⊢
    have hcd : cd = 1 := hcd0
    rcases hcd with rfl
    · obtain rfl : E = "java/lang/IllegalStateException" := hE
      refine vx_catch (own := "ParityArrayLaw") (name := "java/lang/IllegalStateException") hown [] ⟨0, 8, 11, 13⟩ [] htab (fun z h => absurd h List.not_mem_nil) (by decide) (by decide) (hts _ (List.mem_cons_of_mem _ tw_99)) (va_Nw.use rfl (hNW _ (List.mem_of_getElem? (i := 7) rfl))) hcell hcv hcl ?_
      refine lv_astore_n hx hb dXL_check_11 rfl hl (by decide) rfl (fun ls hl => ?_)
      have hl : lv_has ls 3 [(2, .ref q9), (0, .ref (pz_ax a)), (1, .ref o)] := hl
      refine lv_iconst (v := nI 1) hx hb dXL_check_12 (by decide) ?_
      refine vx_ret ?_
      exact W.iret (v := nI 1) hx hb hr (fun t ht hW => ⟨⟨_, ((dk1, su1, bl1, pt1, py1), ov), rfl, ⟨congrArg nI (Eq.symm hG), fun h9 => absurd ((Eq.symm hG).trans h9) (by decide), hI2⟩, by rw [ht]; exact hP, va_K.moved hW.alike hK, hD⟩, hS.F ht⟩) hS.2.2 dXL_check_13
  · obtain ⟨dk1, su1, bl1, pt1, py1⟩ := u
    obtain ⟨hP1, hK1, hD1⟩ := hB
    rw [ht] at hP1
    dsimp only at hw hP1 hD1
    obtain ⟨hP, hD⟩ := pz_L_J hP hD hk1 hFc hP1 hD1
    generalize H1 = H at hP hS ⊢
    obtain ⟨hans0, hmo, hI2⟩ := hw; have hcd : (if pz_mo x = true then 0 else 1) = 0 := if_pos hmo; have hans : r.toInt64 = (nI 0).toInt64 := congrArg Int32.toInt64 hans0
    refine lv_i2l (v := r.toInt64) hx hb dXL_check_6 rfl ?_
    refine va_last hx hb hK hP hD hS 21 0 rfl rfl (vp_in_nI (by omega) (by decide)) dXL_check_7 (fun H locs hP hD hS => ?_)
    rw [nI_clamp (show 0 < 2 ^ 31 by omega)] at hP hD
    have hP : va_P (dC, dI) vwCl (pz_LX a cJ cD dk1 su1 bl1 pt1 py1 o (vp_updL ov 0 r.toInt64)) H := hP
    have hD : va_D A (pz_LX a cJ cD dk1 su1 bl1 pt1 py1 o (vp_updL ov 0 r.toInt64)) := hD
    refine lv_goto (tgt := 14) hx hb dXL_check_8 (by decide) ?_
    refine lv_iconst (v := nI 0) hx hb dXL_check_14 (by decide) ?_
    refine vx_ret ?_
    exact W.iret (v := nI 0) hx hb hr (fun t ht hW => ⟨⟨_, ((dk1, su1, bl1, pt1, py1), vp_updL ov 0 r.toInt64), rfl, ⟨congrArg nI (Eq.symm hcd), fun _ => Eq.trans (show vp_updL ov 0 r.toInt64 0 = r.toInt64 from pk_uLs) hans, hI2⟩, by rw [ht]; exact hP, va_K.moved hW.alike hK, hD⟩, hS.F ht⟩) hS.2.2 dXL_check_15

