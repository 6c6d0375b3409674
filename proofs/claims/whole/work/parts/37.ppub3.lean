/-! ParityArray: recover, told, check (laid by a program) -/
def pz_EX_XP_recover : Nat → String := fun k => match k with
  | _ => "java/lang/ArithmeticException"
set_option maxHeartbeats 4000000 in
set_option maxRecDepth 100000 in
/-- recover -/
theorem c_XP_recover (l : Launch) (hl0 : l.stackTraces = false) (dC : Nat → ClassId) (dI : Nat → Nat → Nat) (sz : Nat) (a : pz_Ad) (cJ cD : ClassId) (dk : Nat → pz_Dk) (su : pz_Su) (bl pt py : Nat → Int64) (sa : Nat → Nat) (x : pz_Mu) (hI : pz_Inv dk su x) : vx_Met l yXP_recover wsXP_recover ({ frames := 6, cells := 1, slots := 6, locals := 133 }) (va_Pc [.ref (pz_ax a)] (fun U => U.heap.size = sz ∧ va_P (dC, dI) vwCl (pz_XW a cJ cD dk su bl pt py) U.heap ∧ va_K (dC, dI) vwCl [(cJ, .long), (cD, .object "ParityArray$Disk")] U ∧ va_D (fun _ => True) (pz_XW a cJ cD dk su bl pt py) ∧ pz_NW U ∧ pz_SR sa U ∧ pz_ZS (va_A (pz_XW a cJ cD dk su bl pt py) sz) U U.heap)) (va_Qv (fun (u : pz_St) => (if pz_mF x = 2 then 1 else 0) = 0 ∧ pz_Inv u.1 u.2.1 (pz_mrec x)) (fun u t => va_P (dC, dI) vwCl (pz_XW a cJ cD u.1 u.2.1 u.2.2.1 u.2.2.2.1 u.2.2.2.2) t.heap ∧ va_K (dC, dI) vwCl [(cJ, .long), (cD, .object "ParityArray$Disk")] t ∧ va_D (va_A (pz_XW a cJ cD dk su bl pt py) sz) (pz_XW a cJ cD u.1 u.2.1 u.2.2.1 u.2.2.2.1 u.2.2.2.2)) (va_A (pz_XW a cJ cD dk su bl pt py) sz)) (vx_X (fun u : pz_St × Nat => ((if pz_mF x = 2 then 1 else 0) = u.2 ∧ pz_Inv u.1.1 u.1.2.1 (pz_mrec x)) ∧ u.2 ≠ 0) (fun E u t => E = pz_EX_XP_recover u.2 ∧ va_P (dC, dI) vwCl (pz_XW a cJ cD u.1.1 u.1.2.1 u.1.2.2.1 u.1.2.2.2.1 u.1.2.2.2.2) t.heap ∧ va_K (dC, dI) vwCl [(cJ, .long), (cD, .object "ParityArray$Disk")] t ∧ va_D (va_A (pz_XW a cJ cD dk su bl pt py) sz) (pz_XW a cJ cD u.1.1 u.1.2.1 u.1.2.2.1 u.1.2.2.2.1 u.1.2.2.2.2)) (va_A (pz_XW a cJ cD dk su bl pt py) sz)) 1 6 (va_A (pz_XW a cJ cD dk su bl pt py) sz) := by
  refine vx_ofW (cc := cXP_recover) (maxL := 2) (ret := none) (by decide) rfl ?_
  intro p e s m args below meth c s₁ B hml hnt hv
  obtain ⟨rfl, hsz, hP, hK, hD0, hNW, hSR, hZ⟩ := hv
  have hx := B.exec
  have hb := B.bytes
  have hr := B.returns
  have hts := atoms_spec (ws := wsXP_recover) B.pre
  have hown : s.vm.findClass "ParityArray" = some m.cls := findClass_of_methodNamed B.named
  have hlocks := B.notSynchronized
  subst hsz
  have hD := hD0.self (sz := s.heap.size)
  generalize hAe : va_A (pz_XW a cJ cD dk su bl pt py) s.heap.size = A at hD hZ ⊢
  have hA : ∀ q : Nat, s.heap.size ≤ q → A q := fun q h => by rw [← hAe]; exact Or.inr h
  have hS : va_S A s.heap s.heap [] := va_S.rf
  have hl := lv_entry ([.ref (pz_ax a)]) (n := 2) (Nat.le_of_ble_eq_true rfl)
  rw [lg_entry_eq]
  generalize (lg_sl ([.ref (pz_ax a)]) ++ List.replicate (2 - (lg_sl ([.ref (pz_ax a)])).length) Slot.unset).toArray = ls at hl ⊢
  have hl : lv_has ls 2 [(0, .ref (pz_ax a))] := hl
  have hth : ∀ d, d < 5 → pz_th (dk d) ≤ 150 := fun d h9 => hI.2.1.th h9
  have hon9 : pz_on su = pz_mo x := hI.2.2.1
  obtain ⟨hcw, hcb⟩ := hI.2.2.b
  refine lv_aload_n hx hb dXP_recover_0 rfl (lv_at hl 0 rfl) ?_
  refine va_get (D := (dC, dI)) (ci := 2) (v := .ref (pz_as a)) (C := "ParityArray") (T := TXP) (N := 5) hx hb hts (fun w h => List.mem_cons_of_mem _ (inXP w h)) hown hK hP 0 rfl rfl 1 (by decide) (hts _ (List.mem_cons_of_mem _ tw_81)) (fun _ h9 => h9) rfl dXP_recover_1 ?_
  refine lv_iconst (v := nI 1) hx hb dXP_recover_4 (by decide) ?_
  refine va_putN (D := (dC, dI)) (ci := 1) (v := .int (nI 1)) (ty := .boolean) (C := "ParityArray$Supply") (T := TXS) (N := 7) hx hb hts (fun w h => List.mem_cons_of_mem _ (inXS w h)) tyXS tyXS_ok nmXS hown hK hP hD hS 2 rfl rfl 0 (by decide) (va_Nw.use rfl (hNW _ (List.mem_of_getElem? (i := 1) rfl))) (fun _ h9 => h9) rfl (by decide +kernel) rfl rfl (Nat.le_of_ble_eq_true rfl) dXP_recover_5 (fun H locs hP hD hS => ?_)
  have hP : va_P (dC, dI) vwCl (pz_XW a cJ cD dk (true, su.2) bl pt py) H := hP
  have hD : va_D A (pz_XW a cJ cD dk (true, su.2) bl pt py) := hD
  refine lv_aload_n hx hb dXP_recover_8 rfl (lv_at hl 0 rfl) ?_
  refine va_get (D := (dC, dI)) (ci := 2) (v := .ref (pz_as a)) (C := "ParityArray") (T := TXP) (N := 5) hx hb hts (fun w h => List.mem_cons_of_mem _ (inXP w h)) hown hK hP 0 rfl rfl 1 (by decide) (hts _ (List.mem_cons_of_mem _ tw_81)) (fun _ h9 => h9) rfl dXP_recover_9 ?_
  refine lv_iconst (v := nI 1) hx hb dXP_recover_12 (by decide) ?_
  refine lv_topi (nm_r (show nI 1 = pz_b true from rfl) ?_)
  have hPc := pz_Xs_P hP
  have hDc := pz_Xs_D hD
  have hFc := pz_Xs_F hD hS hA
  refine va_callv (va_runV (As := [.int (pz_b true)]) (rest := []) ⟨hx, hb, hml, hown, hts⟩ (c_XS_begin l dC dI _ (pz_as a) (true, su.2) true) (cwV 1 hts (pz_gc (List.mem_cons_of_mem _ tw_223) rfl (pz_gc (List.mem_cons_of_mem _ tw_224) rfl (pz_gc (List.mem_cons_of_mem _ tw_225) rfl (pz_gc (List.mem_cons_of_mem _ tw_2) rfl (pz_gi tcXS_begin))))) rfl rfl rfl (by decide +kernel) ⟨Nat.le_of_ble_eq_true rfl, Nat.le_of_ble_eq_true rfl⟩) (pz_preVw (va_recv hK hPc (q0 := 0) rfl rfl) hPc (hK.sub [] rfl) hDc) rfl rfl hl.1 rfl (lv_room (Nat.le_of_ble_eq_true rfl)) dXP_recover_13 ⟨Nat.zero_le _, Nat.zero_le _⟩) hS (fun q _ h => hFc q h) hFc (fun u t H1 locs ht hvm hw hB hz hk1 hS => ?_)
  obtain ⟨hP1, hK1, hD1⟩ := hB
  rw [ht] at hP1
  subst hw
  obtain ⟨hP, hD⟩ := pz_Xs_J hP hD hk1 hFc hP1 hD1
  clear hPc hDc hFc hP1 hD1 hK1 hk1 hz ht hvm
  generalize H1 = H at hP hS ⊢
  refine lv_iconst (v := nI 0) hx hb dXP_recover_16 (by decide) ?_
  refine lv_istore_n hx hb dXP_recover_17 rfl hl (by decide) rfl (fun ls hl => ?_)
  have hl : lv_has ls 2 [(1, .int (nI 0)), (0, .ref (pz_ax a))] := hl
  have hrc := fun k hk => pz_rcv_ok (x := (dk, pz_beg true (true, su.2))) hI.1 k hk
  have hI2 := hI.rec
  refine pz_loop (fun _ => 0) (fun _ => 0) 5 (fun k ls H locs => ∃ py1 : Nat → Int64, lv_has ls 2 [(1, .int (nI k)), (0, .ref (pz_ax a))] ∧ va_P (dC, dI) vwCl (pz_XW a cJ cD ((pz_rcv (dk, pz_beg true (true, su.2)) k).1) ((pz_rcv (dk, pz_beg true (true, su.2)) k).2) bl pt py1) H ∧ va_D A (pz_XW a cJ cD ((pz_rcv (dk, pz_beg true (true, su.2)) k).1) ((pz_rcv (dk, pz_beg true (true, su.2)) k).2) bl pt py1) ∧ va_S A s.heap H locs ∧ pz_wc (pz_rcv (dk, pz_beg true (true, su.2)) k).2 ≤ k) ?_ ?_ 5 0 (by omega) _ _ _ ⟨py, hl, hP, hD, hS, Nat.zero_le _⟩
  · intro k ls H locs hk hI ih
    obtain ⟨py1, hl, hP, hD, hS, hI5⟩ := hI
    obtain ⟨i1, i2, i3, i4⟩ := hrc k (by omega)
    refine lv_iload_n hx hb dXP_recover_18 rfl (lv_at hl 0 rfl) ?_
    refine lv_iconst (v := nI 5) hx hb dXP_recover_19 (by decide) ?_
    refine lv_icmp_ge (tgt := 39) hx hb dXP_recover_20 (by decide) (fun hc => absurd hc (nI_ge hk (by decide))) (fun _ => ?_)
    refine lv_aload_n hx hb dXP_recover_23 rfl (lv_at hl 1 rfl) ?_
    refine lv_aload_n hx hb dXP_recover_24 rfl (lv_at hl 1 rfl) ?_
    refine va_get (D := (dC, dI)) (ci := 2) (v := .ref (pz_ad a)) (C := "ParityArray") (T := TXP) (N := 5) hx hb hts (fun w h => List.mem_cons_of_mem _ (inXP w h)) hown hK hP 0 rfl rfl 0 (by decide) (hts _ (List.mem_cons_of_mem _ tw_80)) (fun _ h9 => h9) rfl dXP_recover_25 ?_
    refine lv_iload_n hx hb dXP_recover_28 rfl (lv_at hl 0 rfl) ?_
    refine pz_ald hx hb hK hP 1 rfl hk dXP_recover_29 ?_
    have hPc := hP
    have hDc := hD
    have hFc := pz_W_F hD hS hA
    refine va_callv (va_runV (As := [.ref ((pz_da a k).1)]) (rest := []) ⟨hx, hb, hml, hown, hts⟩ (c_XP_mendParity l dC dI _ a cJ cD ((pz_rcv (dk, pz_beg true (true, su.2)) k).1) ((pz_rcv (dk, pz_beg true (true, su.2)) k).2) bl pt py1 k (fun d h9 => by rw [(i2 d).1]; exact hth d h9) (by rw [i3.2.2.1]; exact hcw) (by rw [i3.2.2.2.1]; exact hcb) (by omega) hk (fun n h9 => (i1.2 k n hk h9).1)) (cwV 1 hts (pz_gc (List.mem_cons_of_mem _ tw_357) rfl (pz_gc (List.mem_cons_of_mem _ tw_359) rfl (pz_gc (List.mem_cons_of_mem _ ts_7) rfl (pz_gc (List.mem_cons_of_mem _ tw_1) rfl (pz_gi tcXP_mendParity))))) rfl rfl rfl (by decide +kernel) ⟨Nat.le_of_ble_eq_true rfl, Nat.le_of_ble_eq_true rfl⟩) (pz_preVwN (va_recv hK hPc (q0 := 0) rfl rfl) hPc hK hDc hNW) rfl rfl hl.1 rfl (lv_room (Nat.le_of_ble_eq_true rfl)) dXP_recover_30 ⟨Nat.zero_le _, Nat.zero_le _⟩) hS (fun q _ h => hFc q h) hFc (fun u t H1 locs ht hvm hw hB hz hk1 hS => ?_)
    obtain ⟨hP1, hK1, hD1⟩ := hB
    rw [ht] at hP1
    obtain ⟨⟨d9, s9⟩, py2⟩ := u; obtain rfl : d9 = (pz_rcv (dk, pz_beg true (true, su.2)) (k + 1)).1 := congrArg Prod.fst hw; obtain rfl : s9 = (pz_rcv (dk, pz_beg true (true, su.2)) (k + 1)).2 := congrArg Prod.snd hw
    obtain ⟨hP, hD⟩ := pz_W_J hP1 hFc hD1
    clear hPc hDc hFc hP1 hD1 hK1 hk1 hz ht hvm
    generalize H1 = H at hP hS ⊢
    dsimp only at hP hD
    refine lv_iinc (k := 0) (v := nI (k + 1)) hx hb dXP_recover_33 hl rfl (by rw [nI_succ]; rfl) (by decide) rfl (fun ls hl => ?_)
    have hl : lv_has ls 2 [(1, .int (nI (k + 1))), (0, .ref (pz_ax a))] := hl
    refine lv_goto (tgt := 18) hx hb dXP_recover_36 (by decide) ?_
    exact ih _ _ _ ⟨py2, hl, hP, hD, hS, Nat.le_trans (pz_mend_wc (pz_rcv (dk, pz_beg true (true, su.2)) k) k (pz_let_wc 128)) (by omega)⟩
  · intro ls H locs hI
    obtain ⟨py1, hl, hP, hD, hS, hI5⟩ := hI
    refine lv_iload_n hx hb dXP_recover_18 rfl (lv_at hl 0 rfl) ?_
    refine lv_iconst (v := nI 5) hx hb dXP_recover_19 (by decide) ?_
    refine lv_icmp_ge (tgt := 39) hx hb dXP_recover_20 (by decide) (fun _ => ?_) (fun hc => absurd hc (fun h9 => h9 (nI_le (Nat.le_refl 5) (by decide))))
    refine lv_aload_n hx hb dXP_recover_39 rfl (lv_at hl 1 rfl) ?_
    refine va_get (D := (dC, dI)) (ci := 2) (v := .ref (pz_as a)) (C := "ParityArray") (T := TXP) (N := 5) hx hb hts (fun w h => List.mem_cons_of_mem _ (inXP w h)) hown hK hP 0 rfl rfl 1 (by decide) (hts _ (List.mem_cons_of_mem _ tw_81)) (fun _ h9 => h9) rfl dXP_recover_40 ?_
    have hPc := pz_Xs_P hP
    have hDc := pz_Xs_D hD
    have hFc := pz_Xs_F hD hS hA
    refine va_callv (va_runV (As := []) (rest := []) ⟨hx, hb, hml, hown, hts⟩ (c_XS_end l dC dI _ (pz_as a) ((pz_rcv (dk, pz_beg true (true, su.2)) 5).2)) (cwV 0 hts (pz_gc (List.mem_cons_of_mem _ tw_250) rfl (pz_gc (List.mem_cons_of_mem _ tw_251) rfl (pz_gc (List.mem_cons_of_mem _ tw_252) rfl (pz_gc (List.mem_cons_of_mem _ tw_2) rfl (pz_gi tcXS_end))))) rfl rfl rfl (by decide +kernel) ⟨Nat.le_of_ble_eq_true rfl, Nat.le_of_ble_eq_true rfl⟩) (pz_preVw (va_recv hK hPc (q0 := 0) rfl rfl) hPc (hK.sub [] rfl) hDc) rfl rfl hl.1 rfl (lv_room (Nat.le_of_ble_eq_true rfl)) dXP_recover_43 ⟨Nat.zero_le _, Nat.zero_le _⟩) hS (fun q _ h => hFc q h) hFc (fun u t H1 locs ht hvm hw hB hz hk1 hS => ?_)
    obtain ⟨hP1, hK1, hD1⟩ := hB
    rw [ht] at hP1
    subst hw
    obtain ⟨hP, hD⟩ := pz_Xs_J hP hD hk1 hFc hP1 hD1
    clear hPc hDc hFc hP1 hD1 hK1 hk1 hz ht hvm
    generalize H1 = H at hP hS ⊢
    refine lv_aload_n hx hb dXP_recover_46 rfl (lv_at hl 1 rfl) ?_
    refine va_get (D := (dC, dI)) (ci := 2) (v := .ref (pz_as a)) (C := "ParityArray") (T := TXP) (N := 5) hx hb hts (fun w h => List.mem_cons_of_mem _ (inXP w h)) hown hK hP 0 rfl rfl 1 (by decide) (hts _ (List.mem_cons_of_mem _ tw_81)) (fun _ h9 => h9) rfl dXP_recover_47 ?_
    have hPc := pz_Xs_P hP
    have hDc := pz_Xs_D hD
    have hFc := pz_Xs_F hD hS hA
    refine va_callv (va_runV (As := []) (rest := []) ⟨hx, hb, hml, hown, hts⟩ (c_XS_forgetPlan l dC dI _ (pz_as a) (pz_end (pz_rcv (dk, pz_beg true (true, su.2)) 5).2)) (cwV 0 hts (pz_gc (List.mem_cons_of_mem _ tw_361) rfl (pz_gc (List.mem_cons_of_mem _ tw_362) rfl (pz_gc (List.mem_cons_of_mem _ tw_363) rfl (pz_gc (List.mem_cons_of_mem _ tw_2) rfl (pz_gi tcXS_forgetPlan))))) rfl rfl rfl (by decide +kernel) ⟨Nat.le_of_ble_eq_true rfl, Nat.le_of_ble_eq_true rfl⟩) (pz_preVw (va_recv hK hPc (q0 := 0) rfl rfl) hPc (hK.sub [] rfl) hDc) rfl rfl hl.1 rfl (lv_room (Nat.le_of_ble_eq_true rfl)) dXP_recover_50 ⟨Nat.zero_le _, Nat.zero_le _⟩) hS (fun q _ h => hFc q h) hFc (fun u t H1 locs ht hvm hw hB hz hk1 hS => ?_)
    obtain ⟨hP1, hK1, hD1⟩ := hB
    rw [ht] at hP1
    subst hw
    obtain ⟨hP, hD⟩ := pz_Xs_J hP hD hk1 hFc hP1 hD1
    clear hPc hDc hFc hP1 hD1 hK1 hk1 hz ht hvm
    generalize H1 = H at hP hS ⊢
    have hon2 := hI2.2.2.1
    generalize hR9 : pz_rcv (dk, pz_beg true (true, su.2)) 5 = r9 at hP hD hI2 hon2 ⊢
    refine lv_aload_n hx hb dXP_recover_53 rfl (lv_at hl 1 rfl) ?_
    refine va_get (D := (dC, dI)) (ci := 2) (v := .ref (pz_as a)) (C := "ParityArray") (T := TXP) (N := 5) hx hb hts (fun w h => List.mem_cons_of_mem _ (inXP w h)) hown hK hP 0 rfl rfl 1 (by decide) (hts _ (List.mem_cons_of_mem _ tw_81)) (fun _ h9 => h9) rfl dXP_recover_54 ?_
    refine va_getN (D := (dC, dI)) (ci := 1) (v := .int (pz_b (pz_on (pz_fgt (pz_end r9.2))))) (C := "ParityArray$Supply") (T := TXS) (N := 7) hx hb hts (fun w h => List.mem_cons_of_mem _ (inXS w h)) hown hK hP 2 rfl rfl 0 (by decide) (va_Nw.use rfl (hNW _ (List.mem_of_getElem? (i := 1) rfl))) (fun _ h9 => h9) rfl dXP_recover_57 ?_
    refine lv_if_ne (tgt := 73) hx hb dXP_recover_60 (by decide) (fun hc => ?_) (fun hc => ?_)
    · have hc : (pz_on (pz_fgt (pz_end r9.2))) = true := pz_bn hc
      have hF : ¬ pz_mF x = 2 := by have h9 := hon2.symm.trans hc; exact of_decide_eq_true h9
      refine vx_ret ?_
      refine W.widen (k := 1) (n := 6) (Nat.le_of_ble_eq_true rfl) (Nat.le_of_ble_eq_true rfl) ?_
      exact W.vret hx hb hr (fun t ht hW => ⟨⟨(r9.1, pz_fgt (pz_end r9.2), bl, pt, py1), rfl, ⟨if_neg hF, hI2⟩, by rw [ht]; exact hP, va_K.moved hW.alike hK, hD⟩, hS.F ht⟩) hS.2.2 dXP_recover_73
    · have hc : (pz_on (pz_fgt (pz_end r9.2))) = false := pz_b0.mp hc
      have hF : pz_mF x = 2 := by have h9 := hon2.symm.trans hc; exact Classical.byContradiction fun h8 => of_decide_eq_false h9 h8
      exact vx_throwS (own := "ParityArray") (cls := "java/lang/ArithmeticException") (text := "power failed") (names := ["java/lang/RuntimeException", "java/lang/Exception"]) (ik := 72) (is := 74) (ic := 76) (sa := sa 2) hx hb hl0 hown (by decide) (by decide) (hts _ (List.mem_cons_of_mem _ tw_254)) (hts _ (List.mem_cons_of_mem _ tw_12)) (hSR 2 (74, "power failed") rfl) (vx_hat (fun w h => hts w (List.mem_cons_of_mem _ (gm_76 w h))) bm_76 (fun w h => va_Nw.use (pz_nws_on w h) (hNW w h))) ok_76 hZ.1 hZ.2 hS (hl.1.trans hml.symm) dXP_recover_63 dXP_recover_66 dXP_recover_67 dXP_recover_69 dXP_recover_72 (fun x h => (hnt x h).elim) (Nat.le_of_ble_eq_true rfl) (Nat.le_of_ble_eq_true rfl) (Nat.le_of_ble_eq_true rfl) (Nat.le_of_ble_eq_true rfl) hlocks (fun t hvm h1 h2 => ⟨((r9.1, pz_fgt (pz_end r9.2), bl, pt, py1), 1), ⟨⟨if_pos hF, hI2⟩, (show 1 ≠ 0 by decide)⟩, ⟨rfl, hP.kept (fun k q hq => h2 q.1 ((hP k q hq).lt)), va_K.moved hvm hK, hD⟩, pz_thF hS h1 h2⟩) hS.2.2 (Nat.le_of_ble_eq_true rfl) (Nat.le_of_ble_eq_true rfl)

def pz_EX_XP_check : Nat → String := fun k => match k with
  | _ => "java/lang/IllegalStateException"
set_option maxHeartbeats 4000000 in
set_option maxRecDepth 100000 in
/-- check -/
theorem c_XP_check (l : Launch) (hl0 : l.stackTraces = false) (dC : Nat → ClassId) (dI : Nat → Nat → Nat) (sz : Nat) (a : pz_Ad) (cJ cD : ClassId) (dk : Nat → pz_Dk) (su : pz_Su) (bl pt py : Nat → Int64) (sa : Nat → Nat) (x : pz_Mu) (hI : pz_Inv dk su x) : vx_Met l yXP_check wsXP_check ({ frames := 6, cells := 1, slots := 6, locals := 90 }) (va_Pc [.ref (pz_ax a)] (fun U => U.heap.size = sz ∧ va_P (dC, dI) vwCl (pz_XW a cJ cD dk su bl pt py) U.heap ∧ va_K (dC, dI) vwCl [(cJ, .long), (cD, .object "ParityArray$Disk")] U ∧ va_D (fun _ => True) (pz_XW a cJ cD dk su bl pt py) ∧ pz_NW U ∧ pz_SR sa U ∧ pz_ZS (va_A (pz_XW a cJ cD dk su bl pt py) sz) U U.heap)) (va_Qi (fun (r : Int32) (u : pz_St) => r = nI 0 ∧ pz_mo x = true ∧ pz_Inv u.1 u.2.1 x) (fun u t => va_P (dC, dI) vwCl (pz_XW a cJ cD u.1 u.2.1 u.2.2.1 u.2.2.2.1 u.2.2.2.2) t.heap ∧ va_K (dC, dI) vwCl [(cJ, .long), (cD, .object "ParityArray$Disk")] t ∧ va_D (va_A (pz_XW a cJ cD dk su bl pt py) sz) (pz_XW a cJ cD u.1 u.2.1 u.2.2.1 u.2.2.2.1 u.2.2.2.2)) (va_A (pz_XW a cJ cD dk su bl pt py) sz)) (vx_X (fun u : pz_St × Nat => (u.2 = 1 ∧ pz_mo x = false ∧ pz_Inv u.1.1 u.1.2.1 x) ∧ u.2 ≠ 0) (fun E u t => E = pz_EX_XP_check u.2 ∧ va_P (dC, dI) vwCl (pz_XW a cJ cD u.1.1 u.1.2.1 u.1.2.2.1 u.1.2.2.2.1 u.1.2.2.2.2) t.heap ∧ va_K (dC, dI) vwCl [(cJ, .long), (cD, .object "ParityArray$Disk")] t ∧ va_D (va_A (pz_XW a cJ cD dk su bl pt py) sz) (pz_XW a cJ cD u.1.1 u.1.2.1 u.1.2.2.1 u.1.2.2.2.1 u.1.2.2.2.2)) (va_A (pz_XW a cJ cD dk su bl pt py) sz)) 1 6 (va_A (pz_XW a cJ cD dk su bl pt py) sz) := by
  refine vx_ofW (cc := cXP_check) (maxL := 3) (ret := (some .int)) (by decide) rfl ?_
  intro p e s m args below meth c s₁ B hml hnt hv
  obtain ⟨rfl, hsz, hP, hK, hD0, hNW, hSR, hZ⟩ := hv
  have hx := B.exec
  have hb := B.bytes
  have hr := B.returns
  have hts := atoms_spec (ws := wsXP_check) B.pre
  have hown : s.vm.findClass "ParityArray" = some m.cls := findClass_of_methodNamed B.named
  have hlocks := B.notSynchronized
  subst hsz
  have hD := hD0.self (sz := s.heap.size)
  generalize hAe : va_A (pz_XW a cJ cD dk su bl pt py) s.heap.size = A at hD hZ ⊢
  have hA : ∀ q : Nat, s.heap.size ≤ q → A q := fun q h => by rw [← hAe]; exact Or.inr h
  have hS : va_S A s.heap s.heap [] := va_S.rf
  have hl := lv_entry ([.ref (pz_ax a)]) (n := 3) (Nat.le_of_ble_eq_true rfl)
  rw [lg_entry_eq]
  generalize (lg_sl ([.ref (pz_ax a)]) ++ List.replicate (3 - (lg_sl ([.ref (pz_ax a)])).length) Slot.unset).toArray = ls at hl ⊢
  have hl : lv_has ls 3 [(0, .ref (pz_ax a))] := hl
  have hth : ∀ d, d < 5 → pz_th (dk d) ≤ 150 := fun d h9 => hI.2.1.th h9
  have hon9 : pz_on su = pz_mo x := hI.2.2.1
  obtain ⟨hcw, hcb⟩ := hI.2.2.b
  refine lv_aload_n hx hb dXP_check_0 rfl (lv_at hl 0 rfl) ?_
  refine va_get (D := (dC, dI)) (ci := 2) (v := .ref (pz_as a)) (C := "ParityArray") (T := TXP) (N := 5) hx hb hts (fun w h => List.mem_cons_of_mem _ (inXP w h)) hown hK hP 0 rfl rfl 1 (by decide) (hts _ (List.mem_cons_of_mem _ tw_81)) (fun _ h9 => h9) rfl dXP_check_1 ?_
  refine va_getN (D := (dC, dI)) (ci := 1) (v := .int (pz_b (pz_on su))) (C := "ParityArray$Supply") (T := TXS) (N := 7) hx hb hts (fun w h => List.mem_cons_of_mem _ (inXS w h)) hown hK hP 2 rfl rfl 0 (by decide) (va_Nw.use rfl (hNW _ (List.mem_of_getElem? (i := 1) rfl))) (fun _ h9 => h9) rfl dXP_check_4 ?_
  refine lv_if_ne (tgt := 20) hx hb dXP_check_7 (by decide) (fun hc => ?_) (fun hc => ?_)
  · have hc : (pz_on su) = true := pz_bn hc
    have hmo : pz_mo x = true := hon9 ▸ hc
    refine lv_aload_n hx hb dXP_check_20 rfl (lv_at hl 0 rfl) ?_
    refine va_calli (va_runV (As := []) (rest := []) ⟨hx, hb, hml, hown, hts⟩ (c_XP_unwellDisk l dC dI a cJ cD dk su bl pt py (pz_ms x) hth (fun d hd hne => (hI.2.1.1 d hd hne).1) (fun d h9 => ⟨(hI.2.1.2.1 d h9).1, by have := hI.2.1.2.1 d h9; omega⟩)) (cwV 0 hts (pz_gc (List.mem_cons_of_mem _ tw_285) rfl (pz_gc (List.mem_cons_of_mem _ tw_287) rfl (pz_gc (List.mem_cons_of_mem _ ts_5) rfl (pz_gc (List.mem_cons_of_mem _ tw_1) rfl (pz_gi tcXP_unwellDisk))))) rfl rfl rfl (by decide +kernel) ⟨Nat.le_of_ble_eq_true rfl, Nat.le_of_ble_eq_true rfl⟩) (pz_preV (va_recv hK hP (q0 := 0) rfl rfl) hP hK) rfl rfl hl.1 rfl (lv_room (Nat.le_of_ble_eq_true rfl)) dXP_check_21 ⟨Nat.zero_le _, Nat.zero_le _⟩) hS (fun q _ h => h.elim) (fun q h => h.elim) (fun r u t H locs ht hvm hw _ hz hk9 hS => ?_)
    have hP := pz_keep hP hk9
    clear hk9 hz ht hvm
    subst hw
    refine lv_iconst (v := (-1)) hx hb dXP_check_24 (by decide) ?_
    refine lv_icmp_eq (tgt := 30) hx hb dXP_check_25 (by decide) (fun hc => ?_) (fun hc => ?_)
    · have hsk := (pz_om1 (fun e h9 => by have := (hI.2.1.2.1 e h9).1; omega)).mp hc
      refine lv_iconst (v := nI 0) hx hb dXP_check_30 (by decide) ?_
      refine lv_istore_n hx hb dXP_check_31 rfl hl (by decide) rfl (fun ls hl => ?_)
      have hl : lv_has ls 3 [(1, .int (nI 0)), (0, .ref (pz_ax a))] := hl
      refine lv_iconst (v := nI 0) hx hb dXP_check_32 (by decide) ?_
      refine lv_istore_n hx hb dXP_check_33 rfl hl (by decide) rfl (fun ls hl => ?_)
      have hl : lv_has ls 3 [(2, .int (nI 0)), (1, .int (nI 0)), (0, .ref (pz_ax a))] := hl
      refine pz_loop (fun _ => 0) (fun _ => 0) 150 (fun k ls H locs => lv_has ls 3 [(2, .int (nI k)), (1, .int (nI 0)), (0, .ref (pz_ax a))] ∧ va_P (dC, dI) vwCl (pz_XW a cJ cD dk su bl pt py) H ∧ va_S A s.heap H locs) ?_ ?_ 150 0 (by omega) _ _ _ ⟨hl, hP, hS⟩
      · intro k ls H locs hk hI ih
        obtain ⟨hl, hP, hS⟩ := hI
        refine lv_iload_n hx hb dXP_check_34 rfl (lv_at hl 0 rfl) ?_
        refine lv_sipush (v := nI 150) hx hb dXP_check_35 (by decide) ?_
        refine lv_icmp_ge (tgt := 58) hx hb dXP_check_38 (by decide) (fun hc => absurd hc (nI_ge hk (by decide))) (fun _ => ?_)
        refine lv_aload_n hx hb dXP_check_41 rfl (lv_at hl 2 rfl) ?_
        refine lv_iload_n hx hb dXP_check_42 rfl (lv_at hl 0 rfl) ?_
        refine va_calli (va_runV (As := [.int (nI k)]) (rest := []) ⟨hx, hb, hml, hown, hts⟩ (c_XP_isParityRight l dC dI a cJ cD dk su bl pt py k hth hk (fun j hj => hI.chk hmo hsk hk hj)) (cwV 1 hts (pz_gc (List.mem_cons_of_mem _ tw_380) rfl (pz_gc (List.mem_cons_of_mem _ tw_382) rfl (pz_gc (List.mem_cons_of_mem _ ts_8) rfl (pz_gc (List.mem_cons_of_mem _ tw_1) rfl (pz_gi tcXP_isParityRight))))) rfl rfl rfl (by decide +kernel) ⟨Nat.le_of_ble_eq_true rfl, Nat.le_of_ble_eq_true rfl⟩) (pz_preV (va_recv hK hP (q0 := 0) rfl rfl) hP hK) rfl rfl hl.1 rfl (lv_room (Nat.le_of_ble_eq_true rfl)) dXP_check_43 ⟨Nat.zero_le _, Nat.zero_le _⟩) hS (fun q _ h => h.elim) (fun q h => h.elim) (fun r u t H locs ht hvm hw _ hz hk9 hS => ?_)
        have hP := pz_keep hP hk9
        clear hk9 hz ht hvm
        subst hw
        refine lv_if_ne (tgt := 52) hx hb dXP_check_46 (by decide) (fun _ => ?_) (fun hc => absurd hc (by decide))
        refine lv_iinc (k := 0) (v := nI (k + 1)) hx hb dXP_check_52 hl rfl (by rw [nI_succ]; rfl) (by decide) rfl (fun ls hl => ?_)
        have hl : lv_has ls 3 [(2, .int (nI (k + 1))), (1, .int (nI 0)), (0, .ref (pz_ax a))] := hl
        refine lv_goto (tgt := 34) hx hb dXP_check_55 (by decide) ?_
        exact ih _ _ _ ⟨hl, hP, hS⟩
      · intro ls H locs hI
        obtain ⟨hl, hP, hS⟩ := hI
        refine lv_iload_n hx hb dXP_check_34 rfl (lv_at hl 0 rfl) ?_
        refine lv_sipush (v := nI 150) hx hb dXP_check_35 (by decide) ?_
        refine lv_icmp_ge (tgt := 58) hx hb dXP_check_38 (by decide) (fun _ => ?_) (fun hc => absurd hc (fun h9 => h9 (nI_le (Nat.le_refl 150) (by decide))))
        refine lv_iload_n hx hb dXP_check_58 rfl (lv_at hl 1 rfl) ?_
        refine vx_ret ?_
        refine W.widen (k := 1) (n := 6) (Nat.le_of_ble_eq_true rfl) (Nat.le_of_ble_eq_true rfl) ?_
        exact W.iret (v := nI 0) hx hb hr (fun t ht hW => ⟨⟨_, (dk, su, bl, pt, py), rfl, ⟨rfl, hmo, hI⟩, by rw [ht]; exact hP, va_K.moved hW.alike hK, hD⟩, hS.F ht⟩) hS.2.2 dXP_check_59
    · refine lv_iconst (v := nI 0) hx hb dXP_check_28 (by decide) ?_
      refine vx_ret ?_
      refine W.widen (k := 1) (n := 6) (Nat.le_of_ble_eq_true rfl) (Nat.le_of_ble_eq_true rfl) ?_
      exact W.iret (v := nI 0) hx hb hr (fun t ht hW => ⟨⟨_, (dk, su, bl, pt, py), rfl, ⟨rfl, hmo, hI⟩, by rw [ht]; exact hP, va_K.moved hW.alike hK, hD⟩, hS.F ht⟩) hS.2.2 dXP_check_29
  · have hc : (pz_on su) = false := pz_b0.mp hc
    have hmo : pz_mo x = false := hon9 ▸ hc
    exact vx_throwS (own := "ParityArray") (cls := "java/lang/IllegalStateException") (text := "power is off") (names := ["java/lang/RuntimeException", "java/lang/Exception"]) (ik := 37) (is := 39) (ic := 41) (sa := sa 0) hx hb hl0 hown (by decide) (by decide) (hts _ (List.mem_cons_of_mem _ tw_106)) (hts _ (List.mem_cons_of_mem _ tw_8)) (hSR 0 (39, "power is off") rfl) (vx_hat (fun w h => hts w (List.mem_cons_of_mem _ (gm_41 w h))) bm_41 (fun w h => va_Nw.use (pz_nws_on w h) (hNW w h))) ok_41 hZ.1 hZ.2 hS (hl.1.trans hml.symm) dXP_check_10 dXP_check_13 dXP_check_14 dXP_check_16 dXP_check_19 (fun x h => (hnt x h).elim) (Nat.le_of_ble_eq_true rfl) (Nat.le_of_ble_eq_true rfl) (Nat.le_of_ble_eq_true rfl) (Nat.le_of_ble_eq_true rfl) hlocks (fun t hvm h1 h2 => ⟨((dk, su, bl, pt, py), 1), ⟨⟨rfl, hmo, hI⟩, (show 1 ≠ 0 by decide)⟩, ⟨rfl, hP.kept (fun k q hq => h2 q.1 ((hP k q hq).lt)), va_K.moved hvm hK, hD⟩, pz_thF hS h1 h2⟩) hS.2.2 (Nat.le_of_ble_eq_true rfl) (Nat.le_of_ble_eq_true rfl)

def pz_EX_XP_told : Nat → String := fun k => match k with
  | _ => "java/lang/IllegalArgumentException"
set_option maxHeartbeats 4000000 in
set_option maxRecDepth 100000 in
/-- told -/
theorem c_XP_told (l : Launch) (hl0 : l.stackTraces = false) (dC : Nat → ClassId) (dI : Nat → Nat → Nat) (sz : Nat) (a : pz_Ad) (cJ cD : ClassId) (dk : Nat → pz_Dk) (su : pz_Su) (bl pt py : Nat → Int64) (sa : Nat → Nat) (x : pz_Mu) (w0 : Int32) (hI : pz_Inv dk su x) : vx_Met l yXP_told wsXP_told ({ frames := 6, cells := 1, slots := 6, locals := 90 }) (va_Pc [.ref (pz_ax a), .int w0] (fun U => U.heap.size = sz ∧ va_P (dC, dI) vwCl (pz_XW a cJ cD dk su bl pt py) U.heap ∧ va_K (dC, dI) vwCl [(cJ, .long), (cD, .object "ParityArray$Disk")] U ∧ va_D (fun _ => True) (pz_XW a cJ cD dk su bl pt py) ∧ pz_NW U ∧ pz_SR sa U ∧ pz_ZS (va_A (pz_XW a cJ cD dk su bl pt py) sz) U U.heap)) (va_Qi (fun (r : Int32) (u : pz_St) => (r, 0) = pz_gT x w0 ∧ pz_Inv u.1 u.2.1 x) (fun u t => va_P (dC, dI) vwCl (pz_XW a cJ cD u.1 u.2.1 u.2.2.1 u.2.2.2.1 u.2.2.2.2) t.heap ∧ va_K (dC, dI) vwCl [(cJ, .long), (cD, .object "ParityArray$Disk")] t ∧ va_D (va_A (pz_XW a cJ cD dk su bl pt py) sz) (pz_XW a cJ cD u.1 u.2.1 u.2.2.1 u.2.2.2.1 u.2.2.2.2)) (va_A (pz_XW a cJ cD dk su bl pt py) sz)) (vx_X (fun u : pz_St × Nat => ((pz_gT x w0).2 = u.2 ∧ pz_Inv u.1.1 u.1.2.1 x) ∧ u.2 ≠ 0) (fun E u t => E = pz_EX_XP_told u.2 ∧ va_P (dC, dI) vwCl (pz_XW a cJ cD u.1.1 u.1.2.1 u.1.2.2.1 u.1.2.2.2.1 u.1.2.2.2.2) t.heap ∧ va_K (dC, dI) vwCl [(cJ, .long), (cD, .object "ParityArray$Disk")] t ∧ va_D (va_A (pz_XW a cJ cD dk su bl pt py) sz) (pz_XW a cJ cD u.1.1 u.1.2.1 u.1.2.2.1 u.1.2.2.2.1 u.1.2.2.2.2)) (va_A (pz_XW a cJ cD dk su bl pt py) sz)) 1 6 (va_A (pz_XW a cJ cD dk su bl pt py) sz) := by
  refine vx_ofW (cc := cXP_told) (maxL := 3) (ret := (some .int)) (by decide) rfl ?_
  intro p e s m args below meth c s₁ B hml hnt hv
  obtain ⟨rfl, hsz, hP, hK, hD0, hNW, hSR, hZ⟩ := hv
  have hx := B.exec
  have hb := B.bytes
  have hr := B.returns
  have hts := atoms_spec (ws := wsXP_told) B.pre
  have hown : s.vm.findClass "ParityArray" = some m.cls := findClass_of_methodNamed B.named
  have hlocks := B.notSynchronized
  subst hsz
  have hD := hD0.self (sz := s.heap.size)
  generalize hAe : va_A (pz_XW a cJ cD dk su bl pt py) s.heap.size = A at hD hZ ⊢
  have hA : ∀ q : Nat, s.heap.size ≤ q → A q := fun q h => by rw [← hAe]; exact Or.inr h
  have hS : va_S A s.heap s.heap [] := va_S.rf
  have hl := lv_entry ([.ref (pz_ax a), .int w0]) (n := 3) (Nat.le_of_ble_eq_true rfl)
  rw [lg_entry_eq]
  generalize (lg_sl ([.ref (pz_ax a), .int w0]) ++ List.replicate (3 - (lg_sl ([.ref (pz_ax a), .int w0])).length) Slot.unset).toArray = ls at hl ⊢
  have hl : lv_has ls 3 [(0, .ref (pz_ax a)), (1, .int w0)] := hl
  have hth : ∀ d, d < 5 → pz_th (dk d) ≤ 150 := fun d h9 => hI.2.1.th h9
  have hon9 : pz_on su = pz_mo x := hI.2.2.1
  obtain ⟨hcw, hcb⟩ := hI.2.2.b
  refine lv_aload_n hx hb dXP_told_0 rfl (lv_at hl 0 rfl) ?_
  refine va_calli (va_runV (As := []) (rest := []) ⟨hx, hb, hml, hown, hts⟩ (c_XP_unwellDisk l dC dI a cJ cD dk su bl pt py (pz_ms x) hth (fun d hd hne => (hI.2.1.1 d hd hne).1) (fun d h9 => ⟨(hI.2.1.2.1 d h9).1, by have := hI.2.1.2.1 d h9; omega⟩)) (cwV 0 hts (pz_gc (List.mem_cons_of_mem _ tw_285) rfl (pz_gc (List.mem_cons_of_mem _ tw_287) rfl (pz_gc (List.mem_cons_of_mem _ ts_5) rfl (pz_gc (List.mem_cons_of_mem _ tw_1) rfl (pz_gi tcXP_unwellDisk))))) rfl rfl rfl (by decide +kernel) ⟨Nat.le_of_ble_eq_true rfl, Nat.le_of_ble_eq_true rfl⟩) (pz_preV (va_recv hK hP (q0 := 0) rfl rfl) hP hK) rfl rfl hl.1 rfl (lv_room (Nat.le_of_ble_eq_true rfl)) dXP_told_1 ⟨Nat.zero_le _, Nat.zero_le _⟩) hS (fun q _ h => h.elim) (fun q h => h.elim) (fun r u t H locs ht hvm hw _ hz hk9 hS => ?_)
  have hP := pz_keep hP hk9
  clear hk9 hz ht hvm
  subst hw
  refine lv_istore_n hx hb dXP_told_4 rfl hl (by decide) rfl (fun ls hl => ?_)
  have hl : lv_has ls 3 [(2, .int (pz_o (pz_ms x))), (0, .ref (pz_ax a)), (1, .int w0)] := hl
  refine lv_iload_n hx hb dXP_told_5 rfl (lv_at hl 2 rfl) ?_
  rcases pk_ix w0 (show 4 < 2 ^ 31 by decide) with h4 | h4 | ⟨j0, hj0, rfl⟩
  · refine lv_tableOut (tgt := 96) hx hb dXP_told_6 (Or.inl (by have h9 := Int32.lt_iff_toInt_lt.mp h4; simpa using h9)) (by decide) ?_
    exact vx_throwS (own := "ParityArray") (cls := "java/lang/IllegalArgumentException") (text := "nothing to tell") (names := ["java/lang/RuntimeException", "java/lang/Exception"]) (ik := 103) (is := 121) (ic := 107) (sa := sa 9) hx hb hl0 hown (by decide) (by decide) (hts _ (List.mem_cons_of_mem _ tw_329)) (hts _ (List.mem_cons_of_mem _ tw_14)) (hSR 9 (121, "nothing to tell") rfl) (vx_hat (fun w h => hts w (List.mem_cons_of_mem _ (gm_107 w h))) bm_107 (fun w h => va_Nw.use (pz_nws_on w h) (hNW w h))) ok_107 hZ.1 hZ.2 hS (hl.1.trans hml.symm) dXP_told_96 dXP_told_99 dXP_told_100 dXP_told_102 dXP_told_105 (fun x h => (hnt x h).elim) (Nat.le_of_ble_eq_true rfl) (Nat.le_of_ble_eq_true rfl) (Nat.le_of_ble_eq_true rfl) (Nat.le_of_ble_eq_true rfl) hlocks (fun t hvm h1 h2 => ⟨((dk, su, bl, pt, py), 1), ⟨⟨by unfold pz_gT; rw [if_pos (Or.inl h4)], hI⟩, (show 1 ≠ 0 by decide)⟩, ⟨rfl, hP.kept (fun k q hq => h2 q.1 ((hP k q hq).lt)), va_K.moved hvm hK, hD⟩, pz_thF hS h1 h2⟩) hS.2.2 (Nat.le_of_ble_eq_true rfl) (Nat.le_of_ble_eq_true rfl)
  · refine lv_tableOut (tgt := 96) hx hb dXP_told_6 (Or.inr (by have h9 := Int32.le_iff_toInt_le.mp h4; rw [nI_toInt (by decide)] at h9; omega)) (by decide) ?_
    exact vx_throwS (own := "ParityArray") (cls := "java/lang/IllegalArgumentException") (text := "nothing to tell") (names := ["java/lang/RuntimeException", "java/lang/Exception"]) (ik := 103) (is := 121) (ic := 107) (sa := sa 9) hx hb hl0 hown (by decide) (by decide) (hts _ (List.mem_cons_of_mem _ tw_329)) (hts _ (List.mem_cons_of_mem _ tw_14)) (hSR 9 (121, "nothing to tell") rfl) (vx_hat (fun w h => hts w (List.mem_cons_of_mem _ (gm_107 w h))) bm_107 (fun w h => va_Nw.use (pz_nws_on w h) (hNW w h))) ok_107 hZ.1 hZ.2 hS (hl.1.trans hml.symm) dXP_told_96 dXP_told_99 dXP_told_100 dXP_told_102 dXP_told_105 (fun x h => (hnt x h).elim) (Nat.le_of_ble_eq_true rfl) (Nat.le_of_ble_eq_true rfl) (Nat.le_of_ble_eq_true rfl) (Nat.le_of_ble_eq_true rfl) hlocks (fun t hvm h1 h2 => ⟨((dk, su, bl, pt, py), 1), ⟨⟨by unfold pz_gT; rw [if_pos (Or.inr h4)], hI⟩, (show 1 ≠ 0 by decide)⟩, ⟨rfl, hP.kept (fun k q hq => h2 q.1 ((hP k q hq).lt)), va_K.moved hvm hK, hD⟩, pz_thF hS h1 h2⟩) hS.2.2 (Nat.le_of_ble_eq_true rfl) (Nat.le_of_ble_eq_true rfl)
  · have hj : j0 = 0 ∨ j0 = 1 ∨ j0 = 2 ∨ j0 = 3 := by omega
    rcases hj with rfl | rfl | rfl | rfl
    · refine lv_tableIn (off := 30) (tgt := 36) hx hb dXP_told_6 (by decide) (by decide) (by decide) (by decide) ?_
      refine lv_aload_n hx hb dXP_told_36 rfl (lv_at hl 1 rfl) ?_
      refine va_get (D := (dC, dI)) (ci := 2) (v := .ref (pz_as a)) (C := "ParityArray") (T := TXP) (N := 5) hx hb hts (fun w h => List.mem_cons_of_mem _ (inXP w h)) hown hK hP 0 rfl rfl 1 (by decide) (hts _ (List.mem_cons_of_mem _ tw_81)) (fun _ h9 => h9) rfl dXP_told_37 ?_
      refine va_getN (D := (dC, dI)) (ci := 1) (v := .int (pz_b (pz_on su))) (C := "ParityArray$Supply") (T := TXS) (N := 7) hx hb hts (fun w h => List.mem_cons_of_mem _ (inXS w h)) hown hK hP 2 rfl rfl 0 (by decide) (va_Nw.use rfl (hNW _ (List.mem_of_getElem? (i := 1) rfl))) (fun _ h9 => h9) rfl dXP_told_40 ?_
      refine lv_if_eq (tgt := 50) hx hb dXP_told_43 (by decide) (fun hc => ?_) (fun hc => ?_)
      · have hc : (pz_on su) = false := pz_b0.mp hc
        have hmo : pz_mo x = false := hon9 ▸ hc
        refine lv_iconst (v := nI 0) hx hb dXP_told_50 (by decide) ?_
        refine vx_ret ?_
        refine W.widen (k := 1) (n := 6) (Nat.le_of_ble_eq_true rfl) (Nat.le_of_ble_eq_true rfl) ?_
        exact W.iret (v := nI 0) hx hb hr (fun t ht hW => ⟨⟨_, (dk, su, bl, pt, py), rfl, ⟨by unfold pz_gT; rw [if_neg (by decide), if_pos (show nI 0 = 0 from rfl), hmo]; rfl, hI⟩, by rw [ht]; exact hP, va_K.moved hW.alike hK, hD⟩, hS.F ht⟩) hS.2.2 dXP_told_51
      · have hc : (pz_on su) = true := pz_bn hc
        have hmo : pz_mo x = true := hon9 ▸ hc
        refine lv_iconst (v := nI 1) hx hb dXP_told_46 (by decide) ?_
        refine lv_goto (tgt := 51) hx hb dXP_told_47 (by decide) ?_
        refine vx_ret ?_
        refine W.widen (k := 1) (n := 6) (Nat.le_of_ble_eq_true rfl) (Nat.le_of_ble_eq_true rfl) ?_
        exact W.iret (v := nI 1) hx hb hr (fun t ht hW => ⟨⟨_, (dk, su, bl, pt, py), rfl, ⟨by unfold pz_gT; rw [if_neg (by decide), if_pos (show nI 0 = 0 from rfl), hmo]; rfl, hI⟩, by rw [ht]; exact hP, va_K.moved hW.alike hK, hD⟩, hS.F ht⟩) hS.2.2 dXP_told_51
    · refine lv_tableIn (off := 46) (tgt := 52) hx hb dXP_told_6 (by decide) (by decide) (by decide) (by decide) ?_
      refine lv_iload_n hx hb dXP_told_52 rfl (lv_at hl 0 rfl) ?_
      refine vx_ret ?_
      refine W.widen (k := 1) (n := 6) (Nat.le_of_ble_eq_true rfl) (Nat.le_of_ble_eq_true rfl) ?_
      exact W.iret (v := pz_o (pz_ms x)) hx hb hr (fun t ht hW => ⟨⟨_, (dk, su, bl, pt, py), rfl, ⟨by unfold pz_gT; rw [if_neg (by decide), if_neg (by decide), if_pos rfl], hI⟩, by rw [ht]; exact hP, va_K.moved hW.alike hK, hD⟩, hS.F ht⟩) hS.2.2 dXP_told_53
    · refine lv_tableIn (off := 48) (tgt := 54) hx hb dXP_told_6 (by decide) (by decide) (by decide) (by decide) ?_
      refine lv_iload_n hx hb dXP_told_54 rfl (lv_at hl 0 rfl) ?_
      refine lv_iconst (v := (-1)) hx hb dXP_told_55 (by decide) ?_
      refine lv_icmp_eq (tgt := 75) hx hb dXP_told_56 (by decide) (fun hc => ?_) (fun hc => ?_)
      · have hsk := (pz_om1 (fun e h9 => by have := (hI.2.1.2.1 e h9).1; omega)).mp hc
        refine lv_iconst (v := nI 0) hx hb dXP_told_75 (by decide) ?_
        refine vx_ret ?_
        refine W.widen (k := 1) (n := 6) (Nat.le_of_ble_eq_true rfl) (Nat.le_of_ble_eq_true rfl) ?_
        exact W.iret (v := nI 0) hx hb hr (fun t ht hW => ⟨⟨_, (dk, su, bl, pt, py), rfl, ⟨by unfold pz_gT; rw [if_neg (by decide), if_neg (by decide), if_neg (by decide), if_pos rfl, (hI.2.1.2.2 hsk).1]; rfl, hI⟩, by rw [ht]; exact hP, va_K.moved hW.alike hK, hD⟩, hS.F ht⟩) hS.2.2 dXP_told_76
      · obtain ⟨d0, hsk⟩ : ∃ d0, pz_ms x = some d0 := by
          cases h9 : pz_ms x with
          | none => exact absurd ((pz_om1 (fun e h9 => by have := (hI.2.1.2.1 e h9).1; omega)).mpr h9) hc
          | some z => exact ⟨z, rfl⟩
        obtain ⟨hd0, hr1, hr2, hr3, hr4⟩ := hI.2.1.2.1 d0 hsk
        have hl0s := hl
        rw [hsk] at hl
        have hl : lv_has ls 3 [(2, .int (nI d0)), (0, .ref (pz_ax a)), (1, .int (nI 2))] := hl
        refine lv_aload_n hx hb dXP_told_59 rfl (lv_at hl 1 rfl) ?_
        refine va_get (D := (dC, dI)) (ci := 2) (v := .ref (pz_ad a)) (C := "ParityArray") (T := TXP) (N := 5) hx hb hts (fun w h => List.mem_cons_of_mem _ (inXP w h)) hown hK hP 0 rfl rfl 0 (by decide) (hts _ (List.mem_cons_of_mem _ tw_80)) (fun _ h9 => h9) rfl dXP_told_60 ?_
        refine lv_iload_n hx hb dXP_told_63 rfl (lv_at hl 0 rfl) ?_
        refine pz_ald hx hb hK hP 1 rfl hd0 dXP_told_64 ?_
        refine va_getN (D := (dC, dI)) (ci := 0) (v := .int (pz_b (pz_dd (dk d0)))) (C := "ParityArray$Disk") (T := TXD) (N := 5) hx hb hts (fun w h => List.mem_cons_of_mem _ (inXD w h)) hown hK hP (6 + 3 * d0) (pz_X_o hd0) rfl 3 (by decide) (va_Nw.use rfl (hNW _ (List.mem_of_getElem? (i := 5) rfl))) (fun _ h9 => h9) rfl dXP_told_65 ?_
        refine lv_if_ne (tgt := 75) hx hb dXP_told_68 (by decide) (fun hc => ?_) (fun hc => ?_)
        · have hc : (pz_dd (dk d0)) = true := pz_bn hc
          have hfr : pz_mf x = false := by rw [hr3] at hc; cases h9 : pz_mf x; rfl; rw [h9] at hc; cases hc
          refine lv_iconst (v := nI 0) hx hb dXP_told_75 (by decide) ?_
          refine vx_ret ?_
          refine W.widen (k := 1) (n := 6) (Nat.le_of_ble_eq_true rfl) (Nat.le_of_ble_eq_true rfl) ?_
          exact W.iret (v := nI 0) hx hb hr (fun t ht hW => ⟨⟨_, (dk, su, bl, pt, py), rfl, ⟨by unfold pz_gT; rw [if_neg (by decide), if_neg (by decide), if_neg (by decide), if_pos rfl, hfr]; rfl, hI⟩, by rw [ht]; exact hP, va_K.moved hW.alike hK, hD⟩, hS.F ht⟩) hS.2.2 dXP_told_76
        · have hc : (pz_dd (dk d0)) = false := pz_b0.mp hc
          have hfr : pz_mf x = true := by rw [hr3] at hc; cases h9 : pz_mf x; rw [h9] at hc; cases hc; rfl
          refine lv_iconst (v := nI 1) hx hb dXP_told_71 (by decide) ?_
          refine lv_goto (tgt := 76) hx hb dXP_told_72 (by decide) ?_
          refine vx_ret ?_
          refine W.widen (k := 1) (n := 6) (Nat.le_of_ble_eq_true rfl) (Nat.le_of_ble_eq_true rfl) ?_
          exact W.iret (v := nI 1) hx hb hr (fun t ht hW => ⟨⟨_, (dk, su, bl, pt, py), rfl, ⟨by unfold pz_gT; rw [if_neg (by decide), if_neg (by decide), if_neg (by decide), if_pos rfl, hfr]; rfl, hI⟩, by rw [ht]; exact hP, va_K.moved hW.alike hK, hD⟩, hS.F ht⟩) hS.2.2 dXP_told_76
    · refine lv_tableIn (off := 71) (tgt := 77) hx hb dXP_told_6 (by decide) (by decide) (by decide) (by decide) ?_
      refine lv_iload_n hx hb dXP_told_77 rfl (lv_at hl 0 rfl) ?_
      refine lv_iconst (v := (-1)) hx hb dXP_told_78 (by decide) ?_
      refine lv_icmp_eq (tgt := 94) hx hb dXP_told_79 (by decide) (fun hc => ?_) (fun hc => ?_)
      · have hsk := (pz_om1 (fun e h9 => by have := (hI.2.1.2.1 e h9).1; omega)).mp hc
        refine lv_iconst (v := nI 0) hx hb dXP_told_94 (by decide) ?_
        refine vx_ret ?_
        refine W.widen (k := 1) (n := 6) (Nat.le_of_ble_eq_true rfl) (Nat.le_of_ble_eq_true rfl) ?_
        exact W.iret (v := nI 0) hx hb hr (fun t ht hW => ⟨⟨_, (dk, su, bl, pt, py), rfl, ⟨by unfold pz_gT; rw [if_neg (by decide), if_neg (by decide), if_neg (by decide), if_neg (by decide), (hI.2.1.2.2 hsk).2], hI⟩, by rw [ht]; exact hP, va_K.moved hW.alike hK, hD⟩, hS.F ht⟩) hS.2.2 dXP_told_95
      · obtain ⟨d0, hsk⟩ : ∃ d0, pz_ms x = some d0 := by
          cases h9 : pz_ms x with
          | none => exact absurd ((pz_om1 (fun e h9 => by have := (hI.2.1.2.1 e h9).1; omega)).mpr h9) hc
          | some z => exact ⟨z, rfl⟩
        obtain ⟨hd0, hr1, hr2, hr3, hr4⟩ := hI.2.1.2.1 d0 hsk
        have hl0s := hl
        rw [hsk] at hl
        have hl : lv_has ls 3 [(2, .int (nI d0)), (0, .ref (pz_ax a)), (1, .int (nI 3))] := hl
        refine lv_aload_n hx hb dXP_told_82 rfl (lv_at hl 1 rfl) ?_
        refine va_get (D := (dC, dI)) (ci := 2) (v := .ref (pz_ad a)) (C := "ParityArray") (T := TXP) (N := 5) hx hb hts (fun w h => List.mem_cons_of_mem _ (inXP w h)) hown hK hP 0 rfl rfl 0 (by decide) (hts _ (List.mem_cons_of_mem _ tw_80)) (fun _ h9 => h9) rfl dXP_told_83 ?_
        refine lv_iload_n hx hb dXP_told_86 rfl (lv_at hl 0 rfl) ?_
        refine pz_ald hx hb hK hP 1 rfl hd0 dXP_told_87 ?_
        refine va_getN (D := (dC, dI)) (ci := 0) (v := .int (nI (pz_th (dk d0)))) (C := "ParityArray$Disk") (T := TXD) (N := 5) hx hb hts (fun w h => List.mem_cons_of_mem _ (inXD w h)) hown hK hP (6 + 3 * d0) (pz_X_o hd0) rfl 4 (by decide) (va_Nw.use rfl (hNW _ (List.mem_of_getElem? (i := 6) rfl))) (fun _ h9 => h9) rfl dXP_told_88 ?_
        refine lv_goto (tgt := 95) hx hb dXP_told_91 (by decide) ?_
        refine vx_ret ?_
        refine W.widen (k := 1) (n := 6) (Nat.le_of_ble_eq_true rfl) (Nat.le_of_ble_eq_true rfl) ?_
        exact W.iret (v := nI (pz_th (dk d0))) hx hb hr (fun t ht hW => ⟨⟨_, (dk, su, bl, pt, py), rfl, ⟨by unfold pz_gT; rw [if_neg (by decide), if_neg (by decide), if_neg (by decide), if_neg (by decide), hr2], hI⟩, by rw [ht]; exact hP, va_K.moved hW.alike hK, hD⟩, hS.F ht⟩) hS.2.2 dXP_told_95

