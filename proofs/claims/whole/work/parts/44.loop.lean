/-! the law's walk: its objects, its loop, its end (laid by a program) -/
set_option maxHeartbeats 4000000 in
set_option maxRecDepth 100000 in
theorem whole_start {p : Program} {e : Env} {s : State} {m : MethodId} {below : List Frame} {meth : Method} {c : Code} (l : Launch) (hl0 : l.stackTraces = false) {b L : Nat} {xs : Nat → Int32} (hL : L ≤ 2560) (C0 : lw_At p s m meth c b L xs) : W p l e room_1 s m #[Value.ref b] below meth c s.heap [] 0 0 (lw_Z below #[Value.ref b] s) (entryFrame m ([Value.ref b] : List Value).toArray 8) := by
  obtain ⟨dC, dI, sa, hK, hNW, hAO, hSR, hZ, hCN⟩ := pz_start C0
  obtain ⟨hx, hb, hr, hml, hown, hts, hX, hbl, hlocks, hgv⟩ := C0
  have hown : s.vm.findClass "ParityArrayLaw" = some m.cls := hown
  generalize hAe : (fun q : Nat => s.heap.size ≤ q) = A at hZ
  have hA : ∀ q : Nat, s.heap.size ≤ q → A q := fun q h => by rw [← hAe]; exact h
  have hbA : ¬ A b := by rw [← hAe]; exact Nat.not_le.mpr hbl
  have hS : va_S A s.heap s.heap [] := va_S.rf
  have hP : va_P (dC, dI) vwCl [] s.heap := fun k q h => by cases h
  have hD : va_D A [] := ⟨fun i j p q h => (by cases h), fun k q h => (by cases h)⟩
  have hl := lv_entry ([.ref b]) (n := 8) (Nat.le_of_ble_eq_true rfl)
  rw [lg_entry_eq]
  generalize (lg_sl ([.ref b]) ++ List.replicate (8 - (lg_sl ([.ref b])).length) Slot.unset).toArray = ls at hl ⊢
  have hl : lv_has ls 8 [(0, .ref b)] := hl
  refine va_new (ci := 2) (fs := [.null, .null, .null, .null, .null]) (C := "ParityArray") (T := TXP) (N := 5) hx hb hts (fun w h => (List.mem_filter.mp (inXP w h)).1) tyXP tyXP_ok hown (hts _ (List.mem_filter.mp tw_15).1) (hts _ (List.mem_filter.mp tw_16).1) (hts _ (List.mem_filter.mp tw_1).1) hK hP hD hS hA rfl (by decide +kernel) (Nat.le_of_ble_eq_true rfl) (Nat.le_of_ble_eq_true rfl) dXL_law_0 (fun q1 H hP hD hS => ?_)
  have hP : va_P (dC, dI) vwCl [(q1, .inr (2, [.null, .null, .null, .null, .null]))] H := hP
  have hD : va_D A [(q1, .inr (2, [.null, .null, .null, .null, .null]))] := hD
  refine W.widen (k := 1) (n := 5) (Nat.le_of_ble_eq_true rfl) (Nat.le_of_ble_eq_true rfl) ?_
  refine lv_dup hx hb dXL_law_3 rfl ?_
  have hFc := pz_W_F hD hS hA
  refine va_callv (va_runI (As := []) (rest := [.ref q1]) ⟨hx, hb, hml, hown, hts⟩ (c_XP_init l dC dI _ q1) (cwI 0 hts (pz_gl tcXP_init) rfl rfl rfl (hts _ (List.mem_filter.mp tw_1).1) (hts _ (List.mem_filter.mp tw_17).1) (hts _ (List.mem_filter.mp tw_18).1) rfl (by decide +kernel) ⟨Nat.le_of_ble_eq_true rfl, Nat.le_of_ble_eq_true rfl⟩) (pz_preSi hP hK hD hNW hAO) rfl rfl hl.1 rfl (lv_room (Nat.le_of_ble_eq_true rfl)) dXL_law_4 ⟨Nat.le_of_ble_eq_true rfl, Nat.le_of_ble_eq_true rfl⟩) hS (fun q _ h => hFc q h) hFc (fun u t9 H1 locs ht hvm hw hB hz hk1 hS => ?_)
  obtain ⟨a, cJ, cD⟩ := u
  obtain ⟨hP1, hK1, hD1⟩ := hB
  rw [ht] at hP1
  dsimp only at hw hP1 hK1 hD1
  subst hw
  have hK : va_K (dC, dI) vwCl [(cJ, .long), (cD, .object "ParityArray$Disk")] s := va_K.moved hvm.symm hK1
  obtain ⟨hP, hD⟩ := pz_W_J hP1 hFc hD1
  clear hFc hP1 hD1 hK1 hk1 hz ht hvm
  generalize H1 = H at hP hS ⊢
  refine W.widen (k := 21) (n := 12170) (Nat.le_of_ble_eq_true rfl) (Nat.le_of_ble_eq_true rfl) ?_
  refine lv_astore_n hx hb dXL_law_7 rfl hl (by decide) rfl (fun ls hl => ?_)
  have hl : lv_has ls 8 [(1, .ref (pz_ax a)), (0, .ref b)] := hl
  refine va_new (ci := 3) (fs := [.null, .int (pz_b false), .int (nI 0), .int (pz_b false), .int (nI 0), .int (nI 0), .int (nI 0), .int (nI 0), .int (nI 0)]) (C := "ParityArrayModel") (T := TXM) (N := 9) hx hb hts (fun w h => (List.mem_filter.mp (inXM w h)).1) tyXM tyXM_ok hown (hts _ (List.mem_filter.mp tw_384).1) (hts _ (List.mem_filter.mp tw_385).1) (hts _ (List.mem_filter.mp tw_4).1) hK hP hD hS hA rfl (by decide +kernel) (Nat.le_of_ble_eq_true rfl) (Nat.le_of_ble_eq_true rfl) dXL_law_8 (fun h0 H hP hD hS => ?_)
  have hP : va_P (dC, dI) vwCl (pz_XW a cJ cD pz_d0 pz_s0 (fun _ => 0) (fun _ => 0) (fun _ => 0) ++ [(h0, .inr (3, [.null, .int (pz_b false), .int (nI 0), .int (pz_b false), .int (nI 0), .int (nI 0), .int (nI 0), .int (nI 0), .int (nI 0)]))]) H := hP
  have hD : va_D A (pz_XW a cJ cD pz_d0 pz_s0 (fun _ => 0) (fun _ => 0) (fun _ => 0) ++ [(h0, .inr (3, [.null, .int (pz_b false), .int (nI 0), .int (pz_b false), .int (nI 0), .int (nI 0), .int (nI 0), .int (nI 0), .int (nI 0)]))]) := hD
  refine W.widen (k := 22) (n := 12179) (Nat.le_of_ble_eq_true rfl) (Nat.le_of_ble_eq_true rfl) ?_
  refine lv_dup hx hb dXL_law_11 rfl ?_
  have hPc := hP.sub (ws' := [(h0, .inr (3, [.null, .int (pz_b false), .int (nI 0), .int (pz_b false), .int (nI 0), .int (nI 0), .int (nI 0), .int (nI 0), .int (nI 0)]))]) [21] rfl
  have hDc := hD.sub (ws' := [(h0, .inr (3, [.null, .int (pz_b false), .int (nI 0), .int (pz_b false), .int (nI 0), .int (nI 0), .int (nI 0), .int (nI 0), .int (nI 0)]))]) [21] (by decide) rfl
  have hFc := va_free (wc := [(h0, .inr (3, [.null, .int (pz_b false), .int (nI 0), .int (pz_b false), .int (nI 0), .int (nI 0), .int (nI 0), .int (nI 0), .int (nI 0)]))]) hD hS hA [21] rfl
  refine va_callv (va_runI (As := []) (rest := [.ref h0]) ⟨hx, hb, hml, hown, hts⟩ (c_XM_init l dC dI _ h0) (cwI 0 hts (pz_gl tcXM_init) rfl rfl rfl (hts _ (List.mem_filter.mp tw_4).1) (hts _ (List.mem_filter.mp tw_386).1) (hts _ (List.mem_filter.mp tw_387).1) rfl (by decide +kernel) ⟨Nat.le_of_ble_eq_true rfl, Nat.le_of_ble_eq_true rfl⟩) (pz_preSw hPc (hK.sub [] rfl) hDc) rfl rfl hl.1 rfl (lv_room (Nat.le_of_ble_eq_true rfl)) dXL_law_12 ⟨Nat.le_of_ble_eq_true rfl, Nat.le_of_ble_eq_true rfl⟩) hS (fun q _ h => hFc q h) hFc (fun u t9 H1 locs ht hvm hw hB hz hk1 hS => ?_)
  obtain ⟨aB, cB⟩ := u
  obtain ⟨hP1, hK1, hD1⟩ := hB
  rw [ht] at hP1
  dsimp only at hP1 hK1 hD1
  have hK : va_K (dC, dI) vwCl [(cJ, .long), (cD, .object "ParityArray$Disk"), (cB, .byte)] s := hK.app (va_K.moved hvm.symm hK1)
  obtain ⟨hP, hD⟩ := va_join (wr := pz_XW a cJ cD pz_d0 pz_s0 (fun _ => 0) (fun _ => 0) (fun _ => 0)) (w1 := pz_MW h0 aB cB (fun _ => 0) (fun _ => 0, true, none, false, 0, 0, 0, 0) 0) hP hD [21] [0, 1, 2, 3, 4, 5, 6, 7, 8, 9, 10, 11, 12, 13, 14, 15, 16, 17, 18, 19, 20] rfl rfl (by decide) (by decide) hk1 hFc hP1 hD1
  clear hPc hDc hFc hP1 hD1 hK1 hk1 hz ht hvm
  generalize H1 = H at hP hS ⊢
  refine W.widen (k := 23) (n := 88979) (Nat.le_of_ble_eq_true rfl) (Nat.le_of_ble_eq_true rfl) ?_
  refine lv_astore_n hx hb dXL_law_15 rfl hl (by decide) rfl (fun ls hl => ?_)
  have hl : lv_has ls 8 [(2, .ref h0), (1, .ref (pz_ax a)), (0, .ref b)] := hl
  refine lv_iconst (v := nI 1) hx hb dXL_law_16 (by decide) ?_
  refine va_newa (atype := .long) (ty := .long) (N' := 1) (a0 := (1, .inr (.inl (fun _ => 0)))) hx hb (hts _ (List.mem_filter.mp tw_79).1) rfl hK hP hD hS hA (fun _ => rfl) (nI_pos (by decide)) (nI_clamp (by decide)) (by decide) (Nat.le_of_ble_eq_true rfl) (Nat.le_of_ble_eq_true rfl) dXL_law_17 (fun o c9 H hK hP hD hS => ?_)
  obtain rfl := pz_sameJ hK (i := 0) (j := 3) rfl rfl
  have hK : va_K (dC, dI) vwCl [(cJ, .long), (cD, .object "ParityArray$Disk"), (cB, .byte)] s := hK.sub [0, 1, 2] rfl
  have hP : va_P (dC, dI) vwCl (pz_WW a cJ cD pz_d0 pz_s0 (fun _ => 0) (fun _ => 0) (fun _ => 0) o (fun _ => 0) h0 aB cB (fun _ => 0) (fun _ => 0, true, none, false, 0, 0, 0, 0) 0) H := hP.sub [0, 1, 2, 3, 4, 5, 6, 7, 8, 9, 10, 11, 12, 13, 14, 15, 16, 17, 18, 19, 20, 23, 21, 22] rfl
  have hD : va_D A (pz_WW a cJ cD pz_d0 pz_s0 (fun _ => 0) (fun _ => 0) (fun _ => 0) o (fun _ => 0) h0 aB cB (fun _ => 0) (fun _ => 0, true, none, false, 0, 0, 0, 0) 0) := hD.sub [0, 1, 2, 3, 4, 5, 6, 7, 8, 9, 10, 11, 12, 13, 14, 15, 16, 17, 18, 19, 20, 23, 21, 22] (by decide) rfl
  refine W.widen (k := 24) (n := 88980) (Nat.le_of_ble_eq_true rfl) (Nat.le_of_ble_eq_true rfl) ?_
  refine lv_astore_n hx hb dXL_law_19 rfl hl (by decide) rfl (fun ls hl => ?_)
  have hl : lv_has ls 8 [(3, .ref o), (2, .ref h0), (1, .ref (pz_ax a)), (0, .ref b)] := hl
  refine lv_iconst (v := nI 0) hx hb dXL_law_20 (by decide) ?_
  refine lv_istore hx hb dXL_law_21 hl (by decide) rfl (fun ls hl => ?_)
  have hl : lv_has ls 8 [(4, .int (nI 0)), (3, .ref o), (2, .ref h0), (1, .ref (pz_ax a)), (0, .ref b)] := hl
  refine W.eq (g2 := F0 m 23 ls []) rfl ?_
  have hl : lv_has ls 8 [(4, .int (nI (5 * 0))), (3, .ref o), (2, .ref h0), (1, .ref (pz_ax a)), (0, .ref b)] := lv_sub hl [0, 1, 2, 3, 4] rfl
  refine pz_loop (fun k => 24 + k) (fun k => 88980 + 6 * k) (L / 5) (fun k ls H locs => ∃ (dk : Nat → pz_Dk) (su : pz_Su) (bl pt py ov : Nat → Int64) (f : Nat → Int32) (x : pz_Mu) (th : Nat), lv_has ls 8 [(4, .int (nI (5 * k))), (3, .ref o), (2, .ref h0), (1, .ref (pz_ax a)), (0, .ref b)] ∧ va_P (dC, dI) vwCl (pz_WW a cJ cD dk su bl pt py o ov h0 aB cB f x th) H ∧ va_D A (pz_WW a cJ cD dk su bl pt py o ov h0 aB cB f x th) ∧ va_S A s.heap H locs ∧ pz_Inv dk su x ∧ pz_By f (pz_mM x) ∧ th < 10) ?_ ?_ (L / 5) 0 (by omega) _ _ _ ⟨_, _, _, _, _, _, _, _, _, hl, hP, hD, hS, pz_Inv.new (fun d _ => rfl), pz_By0, by decide⟩
  · intro k ls H locs hk hI ih
    obtain ⟨dk, su, bl, pt, py, ov, f, x, th, hl, hP, hD, hS, hI, hBy, hth⟩ := hI
    have ht5 : 5 * k + 5 ≤ L := by omega
    refine lv_iload hx hb dXL_law_23 (lv_at hl 0 rfl) ?_
    refine lv_aload_n hx hb dXL_law_25 rfl (lv_at hl 4 rfl) ?_
    refine va_slen hx hb hX hbl hbA hS dXL_law_26 ?_
    refine lv_iconst (v := nI 5) hx hb dXL_law_27 (by decide) ?_
    refine lv_isub hx hb dXL_law_28 ?_
    refine lv_icmp_gt (tgt := 596) hx hb dXL_law_29 (by decide) (fun hc => absurd hc (pz_law1 ht5 hL)) (fun _ => ?_)
    refine lv_aload_n hx hb dXL_law_32 rfl (lv_at hl 4 rfl) ?_
    refine lv_iload hx hb dXL_law_33 (lv_at hl 0 rfl) ?_
    refine va_sld hx hb hX hbl hbA hS (vp_in_nI (show 5 * k < L by omega) (by omega)) dXL_law_35 ?_
    refine lv_topi (nm_r (congrArg xs (nI_clamp (by omega))) ?_)
    refine lv_bipush (v := nI 15) hx hb dXL_law_36 (by decide) ?_
    refine lv_iand hx hb dXL_law_38 ?_
    obtain ⟨j, hj, ej⟩ := pk_andE (xs (5 * k)) (m := nI 15) 4 (by decide)
    refine lv_topi (nm_r (ej) ?_)
    have hj : j < 16 := hj
    have hj9 : j = 0 ∨ j = 1 ∨ j = 2 ∨ j = 3 ∨ j = 4 ∨ j = 5 ∨ j = 6 ∨ j = 7 ∨ j = 8 ∨ 9 ≤ j := by omega
    rcases hj9 with rfl | rfl | rfl | rfl | rfl | rfl | rfl | rfl | rfl | hj9
    · refine lv_tableIn (off := 49) (tgt := 88) hx hb dXL_law_39 (by decide) (by decide) (by decide) (by decide) ?_
      exact pz_turn_set l hl0 hx hb hml hown hts hX hbl hL hAe hNW hSR hZ hCN hK ht5 hl hP hD hS hI hBy hth ih
    · refine lv_tableIn (off := 160) (tgt := 199) hx hb dXL_law_39 (by decide) (by decide) (by decide) (by decide) ?_
      exact pz_turn_get l hl0 hx hb hml hown hts hX hbl hL hAe hNW hSR hZ hCN hK ht5 hl hP hD hS hI hBy hth ih
    · refine lv_tableIn (off := 227) (tgt := 266) hx hb dXL_law_39 (by decide) (by decide) (by decide) (by decide) ?_
      exact pz_turn_die l hl0 hx hb hml hown hts hX hbl hL hAe hNW hSR hZ hCN hK ht5 hl hP hD hS hI hBy hth ih
    · refine lv_tableIn (off := 263) (tgt := 302) hx hb dXL_law_39 (by decide) (by decide) (by decide) (by decide) ?_
      exact pz_turn_replace l hl0 hx hb hml hown hts hX hbl hL hAe hNW hSR hZ hCN hK ht5 hl hP hD hS hI hBy hth ih
    · refine lv_tableIn (off := 307) (tgt := 346) hx hb dXL_law_39 (by decide) (by decide) (by decide) (by decide) ?_
      exact pz_turn_rebuild l hl0 hx hb hml hown hts hX hbl hL hAe hNW hSR hZ hCN hK ht5 hl hP hD hS hI hBy hth ih
    · refine lv_tableIn (off := 351) (tgt := 390) hx hb dXL_law_39 (by decide) (by decide) (by decide) (by decide) ?_
      exact pz_turn_power l hl0 hx hb hml hown hts hX hbl hL hAe hNW hSR hZ hCN hK ht5 hl hP hD hS hI hBy hth ih
    · refine lv_tableIn (off := 427) (tgt := 466) hx hb dXL_law_39 (by decide) (by decide) (by decide) (by decide) ?_
      exact pz_turn_recover l hl0 hx hb hml hown hts hX hbl hL hAe hNW hSR hZ hCN hK ht5 hl hP hD hS hI hBy hth ih
    · refine lv_tableIn (off := 451) (tgt := 490) hx hb dXL_law_39 (by decide) (by decide) (by decide) (by decide) ?_
      exact pz_turn_told l hl0 hx hb hml hown hts hX hbl hL hAe hNW hSR hZ hCN hK ht5 hl hP hD hS hI hBy hth ih
    · refine lv_tableIn (off := 507) (tgt := 546) hx hb dXL_law_39 (by decide) (by decide) (by decide) (by decide) ?_
      exact pz_turn_check l hl0 hx hb hml hown hts hX hbl hL hAe hNW hSR hZ hCN hK ht5 hl hP hD hS hI hBy hth ih
    · refine lv_tableOut (tgt := 590) hx hb dXL_law_39 (Or.inr (by rw [nI_toInt (by omega)]; omega)) (by decide) ?_
      refine lv_iinc (k := 0) (v := nI (5 * (k + 1))) hx hb dXL_law_590 hl rfl (show nI (5 * k) + nI 5 = nI (5 * (k + 1)) from by rw [nI_add]; rfl) (by decide) rfl (fun ls hl => ?_)
      have hl : lv_has ls 8 [(4, .int (nI (5 * (k + 1)))), (3, .ref o), (2, .ref h0), (1, .ref (pz_ax a)), (0, .ref b)] := hl
      refine lv_goto (tgt := 23) hx hb dXL_law_593 (by decide) ?_
      refine W.widen (k := 24 + (k + 1)) (n := 88980 + 6 * (k + 1)) (by omega) (by omega) ?_
      exact ih _ _ _ ⟨_, _, _, _, _, _, _, _, _, lv_sub hl [0, 1, 2, 3, 4] rfl, hP, hD, hS, hI, hBy, hth⟩
  · intro ls H locs hI
    obtain ⟨dk, su, bl, pt, py, ov, f, x, th, hl, hP, hD, hS, hI, hBy, hth⟩ := hI
    refine lv_iload hx hb dXL_law_23 (lv_at hl 0 rfl) ?_
    refine lv_aload_n hx hb dXL_law_25 rfl (lv_at hl 4 rfl) ?_
    refine va_slen hx hb hX hbl hbA hS dXL_law_26 ?_
    refine lv_iconst (v := nI 5) hx hb dXL_law_27 (by decide) ?_
    refine lv_isub hx hb dXL_law_28 ?_
    refine lv_icmp_gt (tgt := 596) hx hb dXL_law_29 (by decide) (fun _ => ?_) (fun hc => absurd hc (fun h9 => h9 (pz_law2 hL)))
    refine lv_iconst (v := 1) hx hb dXL_law_596 (by decide) ?_
    refine va_forget (fun q h => by have h9 := hS.2.2 q h; rw [← hAe] at h9; exact h9) ?_
    refine W.widen (k := 601024) (n := 7293033) (show 24 + L / 5 ≤ 601024 by omega) (show 88980 + 6 * (L / 5) ≤ 7293033 by omega) ?_
    exact lw_ret hx hb hr hlocks dXL_law_597

