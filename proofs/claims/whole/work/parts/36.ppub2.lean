/-! ParityArray: die, replace, rebuild, power, recover, told, check (laid by a program) -/
def pz_EX_XP_die : Nat → String := fun k => match k with
  | 1 => "java/lang/IndexOutOfBoundsException"
  | _ => "java/lang/IllegalStateException"
set_option maxHeartbeats 4000000 in
set_option maxRecDepth 100000 in
/-- die -/
theorem c_XP_die (l : Launch) (hl0 : l.stackTraces = false) (dC : Nat → ClassId) (dI : Nat → Nat → Nat) (sz : Nat) (a : pz_Ad) (cJ cD : ClassId) (dk : Nat → pz_Dk) (su : pz_Su) (bl pt py : Nat → Int64) (sa : Nat → Nat) (x : pz_Mu) (d : Int32) (hI : pz_Inv dk su x) : vx_Met l yXP_die wsXP_die ({ frames := 6, cells := 1, slots := 6, locals := 90 }) (va_Pc [.ref (pz_ax a), .int d] (fun U => U.heap.size = sz ∧ va_P (dC, dI) vwCl (pz_XW a cJ cD dk su bl pt py) U.heap ∧ va_K (dC, dI) vwCl [(cJ, .long), (cD, .object "ParityArray$Disk")] U ∧ va_D (fun _ => True) (pz_XW a cJ cD dk su bl pt py) ∧ pz_NW U ∧ pz_SR sa U ∧ pz_ZS (va_A (pz_XW a cJ cD dk su bl pt py) sz) U U.heap)) (va_Qv (fun (u : pz_St) => (pz_gD x d).2 = 0 ∧ pz_Inv u.1 u.2.1 (pz_gD x d).1) (fun u t => va_P (dC, dI) vwCl (pz_XW a cJ cD u.1 u.2.1 u.2.2.1 u.2.2.2.1 u.2.2.2.2) t.heap ∧ va_K (dC, dI) vwCl [(cJ, .long), (cD, .object "ParityArray$Disk")] t ∧ va_D (va_A (pz_XW a cJ cD dk su bl pt py) sz) (pz_XW a cJ cD u.1 u.2.1 u.2.2.1 u.2.2.2.1 u.2.2.2.2)) (va_A (pz_XW a cJ cD dk su bl pt py) sz)) (vx_X (fun u : pz_St × Nat => ((pz_gD x d).2 = u.2 ∧ pz_Inv u.1.1 u.1.2.1 (pz_gD x d).1) ∧ u.2 ≠ 0) (fun E u t => E = pz_EX_XP_die u.2 ∧ va_P (dC, dI) vwCl (pz_XW a cJ cD u.1.1 u.1.2.1 u.1.2.2.1 u.1.2.2.2.1 u.1.2.2.2.2) t.heap ∧ va_K (dC, dI) vwCl [(cJ, .long), (cD, .object "ParityArray$Disk")] t ∧ va_D (va_A (pz_XW a cJ cD dk su bl pt py) sz) (pz_XW a cJ cD u.1.1 u.1.2.1 u.1.2.2.1 u.1.2.2.2.1 u.1.2.2.2.2)) (va_A (pz_XW a cJ cD dk su bl pt py) sz)) 1 6 (va_A (pz_XW a cJ cD dk su bl pt py) sz) := by
  refine vx_ofW (cc := cXP_die) (maxL := 2) (ret := none) (by decide) rfl ?_
  intro p e s m args below meth c s₁ B hml hnt hv
  obtain ⟨rfl, hsz, hP, hK, hD0, hNW, hSR, hZ⟩ := hv
  have hx := B.exec
  have hb := B.bytes
  have hr := B.returns
  have hts := atoms_spec (ws := wsXP_die) B.pre
  have hown : s.vm.findClass "ParityArray" = some m.cls := findClass_of_methodNamed B.named
  have hlocks := B.notSynchronized
  subst hsz
  have hD := hD0.self (sz := s.heap.size)
  generalize hAe : va_A (pz_XW a cJ cD dk su bl pt py) s.heap.size = A at hD hZ ⊢
  have hA : ∀ q : Nat, s.heap.size ≤ q → A q := fun q h => by rw [← hAe]; exact Or.inr h
  have hS : va_S A s.heap s.heap [] := va_S.rf
  have hl := lv_entry ([.ref (pz_ax a), .int d]) (n := 2) (Nat.le_of_ble_eq_true rfl)
  rw [lg_entry_eq]
  generalize (lg_sl ([.ref (pz_ax a), .int d]) ++ List.replicate (2 - (lg_sl ([.ref (pz_ax a), .int d])).length) Slot.unset).toArray = ls at hl ⊢
  have hl : lv_has ls 2 [(0, .ref (pz_ax a)), (1, .int d)] := hl
  have hth : ∀ d, d < 5 → pz_th (dk d) ≤ 150 := fun d h9 => hI.2.1.th h9
  have hon9 : pz_on su = pz_mo x := hI.2.2.1
  obtain ⟨hcw, hcb⟩ := hI.2.2.b
  refine lv_iload_n hx hb dXP_die_0 rfl (lv_at hl 1 rfl) ?_
  refine lv_if_lt (tgt := 9) hx hb dXP_die_1 (by decide) (fun hc => ?_) (fun hc => ?_)
  · exact vx_throwS (own := "ParityArray") (cls := "java/lang/IndexOutOfBoundsException") (text := "no such disk") (names := ["java/lang/RuntimeException", "java/lang/Exception"]) (ik := 48) (is := 77) (ic := 52) (sa := sa 3) hx hb hl0 hown (by decide) (by decide) (hts _ (List.mem_cons_of_mem _ tw_178)) (hts _ (List.mem_cons_of_mem _ tw_9)) (hSR 3 (77, "no such disk") rfl) (vx_hat (fun w h => hts w (List.mem_cons_of_mem _ (gm_52 w h))) bm_52 (fun w h => va_Nw.use (pz_nws_on w h) (hNW w h))) ok_52 hZ.1 hZ.2 hS (hl.1.trans hml.symm) dXP_die_9 dXP_die_12 dXP_die_13 dXP_die_15 dXP_die_18 (fun x h => (hnt x h).elim) (Nat.le_of_ble_eq_true rfl) (Nat.le_of_ble_eq_true rfl) (Nat.le_of_ble_eq_true rfl) (Nat.le_of_ble_eq_true rfl) hlocks (fun t hvm h1 h2 => ⟨((dk, su, bl, pt, py), 1), ⟨by unfold pz_gD; rw [if_pos (show pz_isD d = false from decide_eq_false (fun h9 => Int32.not_le.mpr hc h9.1))]; exact ⟨rfl, hI⟩, (show 1 ≠ 0 by decide)⟩, ⟨rfl, hP.kept (fun k q hq => h2 q.1 ((hP k q hq).lt)), va_K.moved hvm hK, hD⟩, pz_thF hS h1 h2⟩) hS.2.2 (Nat.le_of_ble_eq_true rfl) (Nat.le_of_ble_eq_true rfl)
  · have h1 := hc
    refine lv_iload_n hx hb dXP_die_4 rfl (lv_at hl 1 rfl) ?_
    refine lv_iconst (v := nI 5) hx hb dXP_die_5 (by decide) ?_
    refine lv_icmp_lt (tgt := 19) hx hb dXP_die_6 (by decide) (fun hc => ?_) (fun hc => ?_)
    · obtain ⟨d0, hd0, rfl⟩ := pz_isD_of (decide_eq_true ⟨Int32.not_lt.mp h1, hc⟩ : pz_isD d = true)
      refine lv_aload_n hx hb dXP_die_19 rfl (lv_at hl 0 rfl) ?_
      refine va_get (D := (dC, dI)) (ci := 2) (v := .ref (pz_as a)) (C := "ParityArray") (T := TXP) (N := 5) hx hb hts (fun w h => List.mem_cons_of_mem _ (inXP w h)) hown hK hP 0 rfl rfl 1 (by decide) (hts _ (List.mem_cons_of_mem _ tw_81)) (fun _ h9 => h9) rfl dXP_die_20 ?_
      refine va_getN (D := (dC, dI)) (ci := 1) (v := .int (pz_b (pz_on su))) (C := "ParityArray$Supply") (T := TXS) (N := 7) hx hb hts (fun w h => List.mem_cons_of_mem _ (inXS w h)) hown hK hP 2 rfl rfl 0 (by decide) (va_Nw.use rfl (hNW _ (List.mem_of_getElem? (i := 1) rfl))) (fun _ h9 => h9) rfl dXP_die_23 ?_
      refine lv_if_ne (tgt := 39) hx hb dXP_die_26 (by decide) (fun hc => ?_) (fun hc => ?_)
      · have hc : (pz_on su) = true := pz_bn hc
        have hmo : pz_mo x = true := hon9 ▸ hc
        refine lv_aload_n hx hb dXP_die_39 rfl (lv_at hl 0 rfl) ?_
        refine va_calli (va_runV (As := []) (rest := []) ⟨hx, hb, hml, hown, hts⟩ (c_XP_unwellDisk l dC dI a cJ cD dk su bl pt py (pz_ms x) hth (fun d hd hne => (hI.2.1.1 d hd hne).1) (fun d h9 => ⟨(hI.2.1.2.1 d h9).1, by have := hI.2.1.2.1 d h9; omega⟩)) (cwV 0 hts (pz_gc (List.mem_cons_of_mem _ tw_285) rfl (pz_gc (List.mem_cons_of_mem _ tw_287) rfl (pz_gc (List.mem_cons_of_mem _ ts_5) rfl (pz_gc (List.mem_cons_of_mem _ tw_1) rfl (pz_gi tcXP_unwellDisk))))) rfl rfl rfl (by decide +kernel) ⟨Nat.le_of_ble_eq_true rfl, Nat.le_of_ble_eq_true rfl⟩) (pz_preV (va_recv hK hP (q0 := 0) rfl rfl) hP hK) rfl rfl hl.1 rfl (lv_room (Nat.le_of_ble_eq_true rfl)) dXP_die_40 ⟨Nat.zero_le _, Nat.zero_le _⟩) hS (fun q _ h => h.elim) (fun q h => h.elim) (fun r u t H locs ht hvm hw _ hz hk9 hS => ?_)
        have hP := pz_keep hP hk9
        clear hk9 hz ht hvm
        subst hw
        refine lv_iconst (v := (-1)) hx hb dXP_die_43 (by decide) ?_
        refine lv_icmp_eq (tgt := 57) hx hb dXP_die_44 (by decide) (fun hc => ?_) (fun hc => ?_)
        · have hsk := (pz_om1 (fun e h9 => by have := (hI.2.1.2.1 e h9).1; omega)).mp hc
          refine lv_aload_n hx hb dXP_die_57 rfl (lv_at hl 0 rfl) ?_
          refine va_get (D := (dC, dI)) (ci := 2) (v := .ref (pz_ad a)) (C := "ParityArray") (T := TXP) (N := 5) hx hb hts (fun w h => List.mem_cons_of_mem _ (inXP w h)) hown hK hP 0 rfl rfl 0 (by decide) (hts _ (List.mem_cons_of_mem _ tw_80)) (fun _ h9 => h9) rfl dXP_die_58 ?_
          refine lv_iload_n hx hb dXP_die_61 rfl (lv_at hl 1 rfl) ?_
          refine pz_ald hx hb hK hP 1 rfl hd0 dXP_die_62 ?_
          have hPc := pz_Xd_P (d := d0) hd0 hP
          have hDc := pz_Xd_D (d := d0) hd0 hD
          have hFc := pz_Xd_F (d := d0) hd0 hD hS hA
          refine va_callv (va_runV (As := []) (rest := []) ⟨hx, hb, hml, hown, hts⟩ (c_XD_loseAll l dC dI _ _ _ _ cJ (dk d0)) (cwV 0 hts (pz_gc (List.mem_cons_of_mem _ tw_294) rfl (pz_gc (List.mem_cons_of_mem _ tw_295) rfl (pz_gc (List.mem_cons_of_mem _ tw_296) rfl (pz_gc (List.mem_cons_of_mem _ tw_3) rfl (pz_gi tcXD_loseAll))))) rfl rfl rfl (by decide +kernel) ⟨Nat.le_of_ble_eq_true rfl, Nat.le_of_ble_eq_true rfl⟩) (pz_preVw (va_recv hK hPc (q0 := 0) rfl rfl) hPc (hK.sub [0] rfl) hDc) rfl rfl hl.1 rfl (lv_room (Nat.le_of_ble_eq_true rfl)) dXP_die_63 ⟨Nat.zero_le _, Nat.zero_le _⟩) hS (fun q _ h => hFc q h) hFc (fun u t H1 locs ht hvm hw hB hz hk1 hS => ?_)
          obtain ⟨hP1, hK1, hD1⟩ := hB
          rw [ht] at hP1
          obtain ⟨f9, rfl⟩ := hw
          obtain ⟨hP, hD⟩ := pz_Xd_J (d := d0) hd0 hP hD hk1 hFc hP1 hD1
          clear hPc hDc hFc hP1 hD1 hK1 hk1 hz ht hvm
          generalize H1 = H at hP hS ⊢
          refine vx_ret ?_
          refine W.widen (k := 1) (n := 6) (Nat.le_of_ble_eq_true rfl) (Nat.le_of_ble_eq_true rfl) ?_
          exact W.vret hx hb hr (fun t ht hW => ⟨⟨(va_up dk d0 (f9, pz_rc (dk d0), none, true, 0), su, bl, pt, py), rfl, by unfold pz_gD; rw [if_neg (by rw [pz_isD_nI hd0]; decide), if_neg (by rw [hmo, hsk]; decide), nI_clamp (by omega)]; exact ⟨rfl, hI.die hmo hsk hd0⟩, by rw [ht]; exact hP, va_K.moved hW.alike hK, hD⟩, hS.F ht⟩) hS.2.2 dXP_die_66
        · exact vx_throwS (own := "ParityArray") (cls := "java/lang/IllegalStateException") (text := "a disk is not well") (names := ["java/lang/RuntimeException", "java/lang/Exception"]) (ik := 37) (is := 83) (ic := 41) (sa := sa 4) hx hb hl0 hown (by decide) (by decide) (hts _ (List.mem_cons_of_mem _ tw_106)) (hts _ (List.mem_cons_of_mem _ tw_8)) (hSR 4 (83, "a disk is not well") rfl) (vx_hat (fun w h => hts w (List.mem_cons_of_mem _ (gm_41 w h))) bm_41 (fun w h => va_Nw.use (pz_nws_on w h) (hNW w h))) ok_41 hZ.1 hZ.2 hS (hl.1.trans hml.symm) dXP_die_47 dXP_die_50 dXP_die_51 dXP_die_53 dXP_die_56 (fun x h => (hnt x h).elim) (Nat.le_of_ble_eq_true rfl) (Nat.le_of_ble_eq_true rfl) (Nat.le_of_ble_eq_true rfl) (Nat.le_of_ble_eq_true rfl) hlocks (fun t hvm h1 h2 => ⟨((dk, su, bl, pt, py), 2), ⟨by unfold pz_gD; rw [if_neg (by rw [pz_isD_nI hd0]; decide), if_pos (Or.inr fun h9 => hc ((pz_om1 (fun e h9 => by have := (hI.2.1.2.1 e h9).1; omega)).mpr h9))]; exact ⟨rfl, hI⟩, (show 2 ≠ 0 by decide)⟩, ⟨rfl, hP.kept (fun k q hq => h2 q.1 ((hP k q hq).lt)), va_K.moved hvm hK, hD⟩, pz_thF hS h1 h2⟩) hS.2.2 (Nat.le_of_ble_eq_true rfl) (Nat.le_of_ble_eq_true rfl)
      · have hc : (pz_on su) = false := pz_b0.mp hc
        have hmo : pz_mo x = false := hon9 ▸ hc
        exact vx_throwS (own := "ParityArray") (cls := "java/lang/IllegalStateException") (text := "power is off") (names := ["java/lang/RuntimeException", "java/lang/Exception"]) (ik := 37) (is := 39) (ic := 41) (sa := sa 0) hx hb hl0 hown (by decide) (by decide) (hts _ (List.mem_cons_of_mem _ tw_106)) (hts _ (List.mem_cons_of_mem _ tw_8)) (hSR 0 (39, "power is off") rfl) (vx_hat (fun w h => hts w (List.mem_cons_of_mem _ (gm_41 w h))) bm_41 (fun w h => va_Nw.use (pz_nws_on w h) (hNW w h))) ok_41 hZ.1 hZ.2 hS (hl.1.trans hml.symm) dXP_die_29 dXP_die_32 dXP_die_33 dXP_die_35 dXP_die_38 (fun x h => (hnt x h).elim) (Nat.le_of_ble_eq_true rfl) (Nat.le_of_ble_eq_true rfl) (Nat.le_of_ble_eq_true rfl) (Nat.le_of_ble_eq_true rfl) hlocks (fun t hvm h1 h2 => ⟨((dk, su, bl, pt, py), 2), ⟨by unfold pz_gD; rw [if_neg (by rw [pz_isD_nI hd0]; decide), if_pos (Or.inl hmo)]; exact ⟨rfl, hI⟩, (show 2 ≠ 0 by decide)⟩, ⟨rfl, hP.kept (fun k q hq => h2 q.1 ((hP k q hq).lt)), va_K.moved hvm hK, hD⟩, pz_thF hS h1 h2⟩) hS.2.2 (Nat.le_of_ble_eq_true rfl) (Nat.le_of_ble_eq_true rfl)
    · exact vx_throwS (own := "ParityArray") (cls := "java/lang/IndexOutOfBoundsException") (text := "no such disk") (names := ["java/lang/RuntimeException", "java/lang/Exception"]) (ik := 48) (is := 77) (ic := 52) (sa := sa 3) hx hb hl0 hown (by decide) (by decide) (hts _ (List.mem_cons_of_mem _ tw_178)) (hts _ (List.mem_cons_of_mem _ tw_9)) (hSR 3 (77, "no such disk") rfl) (vx_hat (fun w h => hts w (List.mem_cons_of_mem _ (gm_52 w h))) bm_52 (fun w h => va_Nw.use (pz_nws_on w h) (hNW w h))) ok_52 hZ.1 hZ.2 hS (hl.1.trans hml.symm) dXP_die_9 dXP_die_12 dXP_die_13 dXP_die_15 dXP_die_18 (fun x h => (hnt x h).elim) (Nat.le_of_ble_eq_true rfl) (Nat.le_of_ble_eq_true rfl) (Nat.le_of_ble_eq_true rfl) (Nat.le_of_ble_eq_true rfl) hlocks (fun t hvm h1 h2 => ⟨((dk, su, bl, pt, py), 1), ⟨by unfold pz_gD; rw [if_pos (show pz_isD d = false from decide_eq_false (fun h9 => hc h9.2))]; exact ⟨rfl, hI⟩, (show 1 ≠ 0 by decide)⟩, ⟨rfl, hP.kept (fun k q hq => h2 q.1 ((hP k q hq).lt)), va_K.moved hvm hK, hD⟩, pz_thF hS h1 h2⟩) hS.2.2 (Nat.le_of_ble_eq_true rfl) (Nat.le_of_ble_eq_true rfl)

def pz_EX_XP_replace : Nat → String := fun k => match k with
  | _ => "java/lang/IllegalStateException"
set_option maxHeartbeats 4000000 in
set_option maxRecDepth 100000 in
/-- replace -/
theorem c_XP_replace (l : Launch) (hl0 : l.stackTraces = false) (dC : Nat → ClassId) (dI : Nat → Nat → Nat) (sz : Nat) (a : pz_Ad) (cJ cD : ClassId) (dk : Nat → pz_Dk) (su : pz_Su) (bl pt py : Nat → Int64) (sa : Nat → Nat) (x : pz_Mu) (hI : pz_Inv dk su x) : vx_Met l yXP_replace wsXP_replace ({ frames := 6, cells := 1, slots := 6, locals := 90 }) (va_Pc [.ref (pz_ax a)] (fun U => U.heap.size = sz ∧ va_P (dC, dI) vwCl (pz_XW a cJ cD dk su bl pt py) U.heap ∧ va_K (dC, dI) vwCl [(cJ, .long), (cD, .object "ParityArray$Disk")] U ∧ va_D (fun _ => True) (pz_XW a cJ cD dk su bl pt py) ∧ pz_NW U ∧ pz_SR sa U ∧ pz_ZS (va_A (pz_XW a cJ cD dk su bl pt py) sz) U U.heap)) (va_Qi (fun (r : Int32) (u : pz_St) => r = (pz_gR x).1 ∧ (pz_gR x).2.2 = 0 ∧ pz_Inv u.1 u.2.1 (pz_gR x).2.1) (fun u t => va_P (dC, dI) vwCl (pz_XW a cJ cD u.1 u.2.1 u.2.2.1 u.2.2.2.1 u.2.2.2.2) t.heap ∧ va_K (dC, dI) vwCl [(cJ, .long), (cD, .object "ParityArray$Disk")] t ∧ va_D (va_A (pz_XW a cJ cD dk su bl pt py) sz) (pz_XW a cJ cD u.1 u.2.1 u.2.2.1 u.2.2.2.1 u.2.2.2.2)) (va_A (pz_XW a cJ cD dk su bl pt py) sz)) (vx_X (fun u : pz_St × Nat => ((pz_gR x).2.2 = u.2 ∧ pz_Inv u.1.1 u.1.2.1 (pz_gR x).2.1) ∧ u.2 ≠ 0) (fun E u t => E = pz_EX_XP_replace u.2 ∧ va_P (dC, dI) vwCl (pz_XW a cJ cD u.1.1 u.1.2.1 u.1.2.2.1 u.1.2.2.2.1 u.1.2.2.2.2) t.heap ∧ va_K (dC, dI) vwCl [(cJ, .long), (cD, .object "ParityArray$Disk")] t ∧ va_D (va_A (pz_XW a cJ cD dk su bl pt py) sz) (pz_XW a cJ cD u.1.1 u.1.2.1 u.1.2.2.1 u.1.2.2.2.1 u.1.2.2.2.2)) (va_A (pz_XW a cJ cD dk su bl pt py) sz)) 1 6 (va_A (pz_XW a cJ cD dk su bl pt py) sz) := by
  refine vx_ofW (cc := cXP_replace) (maxL := 2) (ret := (some .int)) (by decide) rfl ?_
  intro p e s m args below meth c s₁ B hml hnt hv
  obtain ⟨rfl, hsz, hP, hK, hD0, hNW, hSR, hZ⟩ := hv
  have hx := B.exec
  have hb := B.bytes
  have hr := B.returns
  have hts := atoms_spec (ws := wsXP_replace) B.pre
  have hown : s.vm.findClass "ParityArray" = some m.cls := findClass_of_methodNamed B.named
  have hlocks := B.notSynchronized
  subst hsz
  have hD := hD0.self (sz := s.heap.size)
  generalize hAe : va_A (pz_XW a cJ cD dk su bl pt py) s.heap.size = A at hD hZ ⊢
  have hA : ∀ q : Nat, s.heap.size ≤ q → A q := fun q h => by rw [← hAe]; exact Or.inr h
  have hS : va_S A s.heap s.heap [] := va_S.rf
  have hl := lv_entry ([.ref (pz_ax a)]) (n := 2) (Nat.le_of_ble_eq_true rfl)
  rw [lg_entry_eq]
  generalize (lg_sl ([.ref (pz_ax a)]) ++ List.replicate (2 - (lg_sl ([.ref (pz_ax a)])).length) Slot.unset).toArray = ls at hl ⊢
  have hl : lv_has ls 2 [(0, .ref (pz_ax a))] := hl
  have hth : ∀ d, d < 5 → pz_th (dk d) ≤ 150 := fun d h9 => hI.2.1.th h9
  have hon9 : pz_on su = pz_mo x := hI.2.2.1
  obtain ⟨hcw, hcb⟩ := hI.2.2.b
  refine lv_aload_n hx hb dXP_replace_0 rfl (lv_at hl 0 rfl) ?_
  refine va_calli (va_runV (As := []) (rest := []) ⟨hx, hb, hml, hown, hts⟩ (c_XP_unwellDisk l dC dI a cJ cD dk su bl pt py (pz_ms x) hth (fun d hd hne => (hI.2.1.1 d hd hne).1) (fun d h9 => ⟨(hI.2.1.2.1 d h9).1, by have := hI.2.1.2.1 d h9; omega⟩)) (cwV 0 hts (pz_gc (List.mem_cons_of_mem _ tw_285) rfl (pz_gc (List.mem_cons_of_mem _ tw_287) rfl (pz_gc (List.mem_cons_of_mem _ ts_5) rfl (pz_gc (List.mem_cons_of_mem _ tw_1) rfl (pz_gi tcXP_unwellDisk))))) rfl rfl rfl (by decide +kernel) ⟨Nat.le_of_ble_eq_true rfl, Nat.le_of_ble_eq_true rfl⟩) (pz_preV (va_recv hK hP (q0 := 0) rfl rfl) hP hK) rfl rfl hl.1 rfl (lv_room (Nat.le_of_ble_eq_true rfl)) dXP_replace_1 ⟨Nat.zero_le _, Nat.zero_le _⟩) hS (fun q _ h => h.elim) (fun q h => h.elim) (fun r u t H locs ht hvm hw _ hz hk9 hS => ?_)
  have hP := pz_keep hP hk9
  clear hk9 hz ht hvm
  subst hw
  refine lv_istore_n hx hb dXP_replace_4 rfl hl (by decide) rfl (fun ls hl => ?_)
  have hl : lv_has ls 2 [(1, .int (pz_o (pz_ms x))), (0, .ref (pz_ax a))] := hl
  refine lv_iload_n hx hb dXP_replace_5 rfl (lv_at hl 0 rfl) ?_
  refine lv_iconst (v := (-1)) hx hb dXP_replace_6 (by decide) ?_
  refine lv_icmp_eq (tgt := 22) hx hb dXP_replace_7 (by decide) (fun hc => ?_) (fun hc => ?_)
  · exact vx_throwS (own := "ParityArray") (cls := "java/lang/IllegalStateException") (text := "no disk is dead") (names := ["java/lang/RuntimeException", "java/lang/Exception"]) (ik := 37) (is := 91) (ic := 41) (sa := sa 5) hx hb hl0 hown (by decide) (by decide) (hts _ (List.mem_cons_of_mem _ tw_106)) (hts _ (List.mem_cons_of_mem _ tw_8)) (hSR 5 (91, "no disk is dead") rfl) (vx_hat (fun w h => hts w (List.mem_cons_of_mem _ (gm_41 w h))) bm_41 (fun w h => va_Nw.use (pz_nws_on w h) (hNW w h))) ok_41 hZ.1 hZ.2 hS (hl.1.trans hml.symm) dXP_replace_22 dXP_replace_25 dXP_replace_26 dXP_replace_28 dXP_replace_31 (fun x h => (hnt x h).elim) (Nat.le_of_ble_eq_true rfl) (Nat.le_of_ble_eq_true rfl) (Nat.le_of_ble_eq_true rfl) (Nat.le_of_ble_eq_true rfl) hlocks (fun t hvm h1 h2 => ⟨((dk, su, bl, pt, py), 1), ⟨by unfold pz_gR; rw [if_pos (Or.inl ((pz_om1 (fun e h9 => by have := (hI.2.1.2.1 e h9).1; omega)).mp hc))]; exact ⟨rfl, hI⟩, (show 1 ≠ 0 by decide)⟩, ⟨rfl, hP.kept (fun k q hq => h2 q.1 ((hP k q hq).lt)), va_K.moved hvm hK, hD⟩, pz_thF hS h1 h2⟩) hS.2.2 (Nat.le_of_ble_eq_true rfl) (Nat.le_of_ble_eq_true rfl)
  · obtain ⟨d0, hsk⟩ : ∃ d0, pz_ms x = some d0 := by
      cases h9 : pz_ms x with
      | none => exact absurd ((pz_om1 (fun e h9 => by have := (hI.2.1.2.1 e h9).1; omega)).mpr h9) hc
      | some z => exact ⟨z, rfl⟩
    obtain ⟨hd0, hr1, hr2, hr3, hr4⟩ := hI.2.1.2.1 d0 hsk
    have hl0s := hl
    rw [hsk] at hl
    have hl : lv_has ls 2 [(1, .int (nI d0)), (0, .ref (pz_ax a))] := hl
    refine lv_aload_n hx hb dXP_replace_10 rfl (lv_at hl 1 rfl) ?_
    refine va_get (D := (dC, dI)) (ci := 2) (v := .ref (pz_ad a)) (C := "ParityArray") (T := TXP) (N := 5) hx hb hts (fun w h => List.mem_cons_of_mem _ (inXP w h)) hown hK hP 0 rfl rfl 0 (by decide) (hts _ (List.mem_cons_of_mem _ tw_80)) (fun _ h9 => h9) rfl dXP_replace_11 ?_
    refine lv_iload_n hx hb dXP_replace_14 rfl (lv_at hl 0 rfl) ?_
    refine pz_ald hx hb hK hP 1 rfl hd0 dXP_replace_15 ?_
    refine va_getN (D := (dC, dI)) (ci := 0) (v := .int (pz_b (pz_dd (dk d0)))) (C := "ParityArray$Disk") (T := TXD) (N := 5) hx hb hts (fun w h => List.mem_cons_of_mem _ (inXD w h)) hown hK hP (6 + 3 * d0) (pz_X_o hd0) rfl 3 (by decide) (va_Nw.use rfl (hNW _ (List.mem_of_getElem? (i := 5) rfl))) (fun _ h9 => h9) rfl dXP_replace_16 ?_
    refine lv_if_ne (tgt := 32) hx hb dXP_replace_19 (by decide) (fun hc => ?_) (fun hc => ?_)
    · have hc : (pz_dd (dk d0)) = true := pz_bn hc
      have hfr : pz_mf x = false := by rw [hr3] at hc; cases h9 : pz_mf x; rfl; rw [h9] at hc; cases hc
      refine lv_aload_n hx hb dXP_replace_32 rfl (lv_at hl 1 rfl) ?_
      refine va_get (D := (dC, dI)) (ci := 2) (v := .ref (pz_ad a)) (C := "ParityArray") (T := TXP) (N := 5) hx hb hts (fun w h => List.mem_cons_of_mem _ (inXP w h)) hown hK hP 0 rfl rfl 0 (by decide) (hts _ (List.mem_cons_of_mem _ tw_80)) (fun _ h9 => h9) rfl dXP_replace_33 ?_
      refine lv_iload_n hx hb dXP_replace_36 rfl (lv_at hl 0 rfl) ?_
      refine pz_ald hx hb hK hP 1 rfl hd0 dXP_replace_37 ?_
      refine lv_iconst (v := nI 0) hx hb dXP_replace_38 (by decide) ?_
      refine lv_topi (nm_r (show nI 0 = pz_b false from rfl) ?_)
      refine va_putN (D := (dC, dI)) (ci := 0) (v := .int (pz_b false)) (ty := .boolean) (C := "ParityArray$Disk") (T := TXD) (N := 5) hx hb hts (fun w h => List.mem_cons_of_mem _ (inXD w h)) tyXD tyXD_ok nmXD hown hK hP hD hS (6 + 3 * d0) (pz_X_o hd0) rfl 3 (by decide) (va_Nw.use rfl (hNW _ (List.mem_of_getElem? (i := 5) rfl))) (fun _ h9 => h9) rfl (by decide +kernel) (pz_nar _) (pz_fit _) (Nat.le_of_ble_eq_true rfl) dXP_replace_39 (fun H locs hP hD hS => ?_)
      have e9 := pz_X_set (a := a) (cJ := cJ) (cD := cD) (dk := dk) (su := su) (bl := bl) (pt := pt) (py := py) hd0 (pz_rb (dk d0)) (false) (pz_th (dk d0))
      have hP : va_P (dC, dI) vwCl (pz_XW a cJ cD (va_up dk d0 (pz_R (dk d0), pz_rc (dk d0), pz_rb (dk d0), false, pz_th (dk d0))) su bl pt py) H := e9 ▸ hP
      have hD : va_D A (pz_XW a cJ cD (va_up dk d0 (pz_R (dk d0), pz_rc (dk d0), pz_rb (dk d0), false, pz_th (dk d0))) su bl pt py) := e9 ▸ hD
      clear e9
      refine lv_iload_n hx hb dXP_replace_42 rfl (lv_at hl 0 rfl) ?_
      refine vx_ret ?_
      refine W.widen (k := 1) (n := 6) (Nat.le_of_ble_eq_true rfl) (Nat.le_of_ble_eq_true rfl) ?_
      exact W.iret (v := nI d0) hx hb hr (fun t ht hW => ⟨⟨_, (va_up dk d0 (pz_R (dk d0), pz_rc (dk d0), pz_rb (dk d0), false, pz_th (dk d0)), su, bl, pt, py), rfl, by unfold pz_gR; rw [if_neg (by rw [hsk, hfr]; simp)]; exact ⟨by rw [hsk]; rfl, rfl, hI.rep hsk⟩, by rw [ht]; exact hP, va_K.moved hW.alike hK, hD⟩, hS.F ht⟩) hS.2.2 dXP_replace_43
    · have hc : (pz_dd (dk d0)) = false := pz_b0.mp hc
      have hfr : pz_mf x = true := by rw [hr3] at hc; cases h9 : pz_mf x; rw [h9] at hc; cases hc; rfl
      exact vx_throwS (own := "ParityArray") (cls := "java/lang/IllegalStateException") (text := "no disk is dead") (names := ["java/lang/RuntimeException", "java/lang/Exception"]) (ik := 37) (is := 91) (ic := 41) (sa := sa 5) hx hb hl0 hown (by decide) (by decide) (hts _ (List.mem_cons_of_mem _ tw_106)) (hts _ (List.mem_cons_of_mem _ tw_8)) (hSR 5 (91, "no disk is dead") rfl) (vx_hat (fun w h => hts w (List.mem_cons_of_mem _ (gm_41 w h))) bm_41 (fun w h => va_Nw.use (pz_nws_on w h) (hNW w h))) ok_41 hZ.1 hZ.2 hS (hl.1.trans hml.symm) dXP_replace_22 dXP_replace_25 dXP_replace_26 dXP_replace_28 dXP_replace_31 (fun x h => (hnt x h).elim) (Nat.le_of_ble_eq_true rfl) (Nat.le_of_ble_eq_true rfl) (Nat.le_of_ble_eq_true rfl) (Nat.le_of_ble_eq_true rfl) hlocks (fun t hvm h1 h2 => ⟨((dk, su, bl, pt, py), 1), ⟨by unfold pz_gR; rw [if_pos (Or.inr hfr)]; exact ⟨rfl, hI⟩, (show 1 ≠ 0 by decide)⟩, ⟨rfl, hP.kept (fun k q hq => h2 q.1 ((hP k q hq).lt)), va_K.moved hvm hK, hD⟩, pz_thF hS h1 h2⟩) hS.2.2 (Nat.le_of_ble_eq_true rfl) (Nat.le_of_ble_eq_true rfl)

def pz_EX_XP_rebuild : Nat → String := fun k => match k with
  | _ => "java/lang/IllegalStateException"
set_option maxHeartbeats 4000000 in
set_option maxRecDepth 100000 in
/-- rebuild -/
theorem c_XP_rebuild (l : Launch) (hl0 : l.stackTraces = false) (dC : Nat → ClassId) (dI : Nat → Nat → Nat) (sz : Nat) (a : pz_Ad) (cJ cD : ClassId) (dk : Nat → pz_Dk) (su : pz_Su) (bl pt py : Nat → Int64) (sa : Nat → Nat) (x : pz_Mu) (hI : pz_Inv dk su x) : vx_Met l yXP_rebuild wsXP_rebuild ({ frames := 6, cells := 1, slots := 6, locals := 131 }) (va_Pc [.ref (pz_ax a)] (fun U => U.heap.size = sz ∧ va_P (dC, dI) vwCl (pz_XW a cJ cD dk su bl pt py) U.heap ∧ va_K (dC, dI) vwCl [(cJ, .long), (cD, .object "ParityArray$Disk")] U ∧ va_D (fun _ => True) (pz_XW a cJ cD dk su bl pt py) ∧ pz_NW U ∧ pz_SR sa U ∧ pz_ZS (va_A (pz_XW a cJ cD dk su bl pt py) sz) U U.heap)) (va_Qi (fun (r : Int32) (u : pz_St) => r = (pz_gB x).1 ∧ (pz_gB x).2.2 = 0 ∧ pz_Inv u.1 u.2.1 (pz_gB x).2.1) (fun u t => va_P (dC, dI) vwCl (pz_XW a cJ cD u.1 u.2.1 u.2.2.1 u.2.2.2.1 u.2.2.2.2) t.heap ∧ va_K (dC, dI) vwCl [(cJ, .long), (cD, .object "ParityArray$Disk")] t ∧ va_D (va_A (pz_XW a cJ cD dk su bl pt py) sz) (pz_XW a cJ cD u.1 u.2.1 u.2.2.1 u.2.2.2.1 u.2.2.2.2)) (va_A (pz_XW a cJ cD dk su bl pt py) sz)) (vx_X (fun u : pz_St × Nat => ((pz_gB x).2.2 = u.2 ∧ pz_Inv u.1.1 u.1.2.1 (pz_gB x).2.1) ∧ u.2 ≠ 0) (fun E u t => E = pz_EX_XP_rebuild u.2 ∧ va_P (dC, dI) vwCl (pz_XW a cJ cD u.1.1 u.1.2.1 u.1.2.2.1 u.1.2.2.2.1 u.1.2.2.2.2) t.heap ∧ va_K (dC, dI) vwCl [(cJ, .long), (cD, .object "ParityArray$Disk")] t ∧ va_D (va_A (pz_XW a cJ cD dk su bl pt py) sz) (pz_XW a cJ cD u.1.1 u.1.2.1 u.1.2.2.1 u.1.2.2.2.1 u.1.2.2.2.2)) (va_A (pz_XW a cJ cD dk su bl pt py) sz)) 1 6 (va_A (pz_XW a cJ cD dk su bl pt py) sz) := by
  refine vx_ofW (cc := cXP_rebuild) (maxL := 2) (ret := (some .int)) (by decide) rfl ?_
  intro p e s m args below meth c s₁ B hml hnt hv
  obtain ⟨rfl, hsz, hP, hK, hD0, hNW, hSR, hZ⟩ := hv
  have hx := B.exec
  have hb := B.bytes
  have hr := B.returns
  have hts := atoms_spec (ws := wsXP_rebuild) B.pre
  have hown : s.vm.findClass "ParityArray" = some m.cls := findClass_of_methodNamed B.named
  have hlocks := B.notSynchronized
  subst hsz
  have hD := hD0.self (sz := s.heap.size)
  generalize hAe : va_A (pz_XW a cJ cD dk su bl pt py) s.heap.size = A at hD hZ ⊢
  have hA : ∀ q : Nat, s.heap.size ≤ q → A q := fun q h => by rw [← hAe]; exact Or.inr h
  have hS : va_S A s.heap s.heap [] := va_S.rf
  have hl := lv_entry ([.ref (pz_ax a)]) (n := 2) (Nat.le_of_ble_eq_true rfl)
  rw [lg_entry_eq]
  generalize (lg_sl ([.ref (pz_ax a)]) ++ List.replicate (2 - (lg_sl ([.ref (pz_ax a)])).length) Slot.unset).toArray = ls at hl ⊢
  have hl : lv_has ls 2 [(0, .ref (pz_ax a))] := hl
  have hth : ∀ d, d < 5 → pz_th (dk d) ≤ 150 := fun d h9 => hI.2.1.th h9
  have hon9 : pz_on su = pz_mo x := hI.2.2.1
  obtain ⟨hcw, hcb⟩ := hI.2.2.b
  refine lv_aload_n hx hb dXP_rebuild_0 rfl (lv_at hl 0 rfl) ?_
  refine va_get (D := (dC, dI)) (ci := 2) (v := .ref (pz_as a)) (C := "ParityArray") (T := TXP) (N := 5) hx hb hts (fun w h => List.mem_cons_of_mem _ (inXP w h)) hown hK hP 0 rfl rfl 1 (by decide) (hts _ (List.mem_cons_of_mem _ tw_81)) (fun _ h9 => h9) rfl dXP_rebuild_1 ?_
  refine va_getN (D := (dC, dI)) (ci := 1) (v := .int (pz_b (pz_on su))) (C := "ParityArray$Supply") (T := TXS) (N := 7) hx hb hts (fun w h => List.mem_cons_of_mem _ (inXS w h)) hown hK hP 2 rfl rfl 0 (by decide) (va_Nw.use rfl (hNW _ (List.mem_of_getElem? (i := 1) rfl))) (fun _ h9 => h9) rfl dXP_rebuild_4 ?_
  refine lv_if_ne (tgt := 20) hx hb dXP_rebuild_7 (by decide) (fun hc => ?_) (fun hc => ?_)
  · have hc : (pz_on su) = true := pz_bn hc
    have hmo : pz_mo x = true := hon9 ▸ hc
    refine lv_aload_n hx hb dXP_rebuild_20 rfl (lv_at hl 0 rfl) ?_
    refine va_calli (va_runV (As := []) (rest := []) ⟨hx, hb, hml, hown, hts⟩ (c_XP_unwellDisk l dC dI a cJ cD dk su bl pt py (pz_ms x) hth (fun d hd hne => (hI.2.1.1 d hd hne).1) (fun d h9 => ⟨(hI.2.1.2.1 d h9).1, by have := hI.2.1.2.1 d h9; omega⟩)) (cwV 0 hts (pz_gc (List.mem_cons_of_mem _ tw_285) rfl (pz_gc (List.mem_cons_of_mem _ tw_287) rfl (pz_gc (List.mem_cons_of_mem _ ts_5) rfl (pz_gc (List.mem_cons_of_mem _ tw_1) rfl (pz_gi tcXP_unwellDisk))))) rfl rfl rfl (by decide +kernel) ⟨Nat.le_of_ble_eq_true rfl, Nat.le_of_ble_eq_true rfl⟩) (pz_preV (va_recv hK hP (q0 := 0) rfl rfl) hP hK) rfl rfl hl.1 rfl (lv_room (Nat.le_of_ble_eq_true rfl)) dXP_rebuild_21 ⟨Nat.zero_le _, Nat.zero_le _⟩) hS (fun q _ h => h.elim) (fun q h => h.elim) (fun r u t H locs ht hvm hw _ hz hk9 hS => ?_)
    have hP := pz_keep hP hk9
    clear hk9 hz ht hvm
    subst hw
    refine lv_istore_n hx hb dXP_rebuild_24 rfl hl (by decide) rfl (fun ls hl => ?_)
    have hl : lv_has ls 2 [(1, .int (pz_o (pz_ms x))), (0, .ref (pz_ax a))] := hl
    refine lv_iload_n hx hb dXP_rebuild_25 rfl (lv_at hl 0 rfl) ?_
    refine lv_iconst (v := (-1)) hx hb dXP_rebuild_26 (by decide) ?_
    refine lv_icmp_eq (tgt := 42) hx hb dXP_rebuild_27 (by decide) (fun hc => ?_) (fun hc => ?_)
    · exact vx_throwS (own := "ParityArray") (cls := "java/lang/IllegalStateException") (text := "no disk is new") (names := ["java/lang/RuntimeException", "java/lang/Exception"]) (ik := 37) (is := 93) (ic := 41) (sa := sa 6) hx hb hl0 hown (by decide) (by decide) (hts _ (List.mem_cons_of_mem _ tw_106)) (hts _ (List.mem_cons_of_mem _ tw_8)) (hSR 6 (93, "no disk is new") rfl) (vx_hat (fun w h => hts w (List.mem_cons_of_mem _ (gm_41 w h))) bm_41 (fun w h => va_Nw.use (pz_nws_on w h) (hNW w h))) ok_41 hZ.1 hZ.2 hS (hl.1.trans hml.symm) dXP_rebuild_42 dXP_rebuild_45 dXP_rebuild_46 dXP_rebuild_48 dXP_rebuild_51 (fun x h => (hnt x h).elim) (Nat.le_of_ble_eq_true rfl) (Nat.le_of_ble_eq_true rfl) (Nat.le_of_ble_eq_true rfl) (Nat.le_of_ble_eq_true rfl) hlocks (fun t hvm h1 h2 => ⟨((dk, su, bl, pt, py), 1), ⟨by unfold pz_gB; rw [if_pos (Or.inr (Or.inl ((pz_om1 (fun e h9 => by have := (hI.2.1.2.1 e h9).1; omega)).mp hc)))]; exact ⟨rfl, hI⟩, (show 1 ≠ 0 by decide)⟩, ⟨rfl, hP.kept (fun k q hq => h2 q.1 ((hP k q hq).lt)), va_K.moved hvm hK, hD⟩, pz_thF hS h1 h2⟩) hS.2.2 (Nat.le_of_ble_eq_true rfl) (Nat.le_of_ble_eq_true rfl)
    · obtain ⟨d0, hsk⟩ : ∃ d0, pz_ms x = some d0 := by
        cases h9 : pz_ms x with
        | none => exact absurd ((pz_om1 (fun e h9 => by have := (hI.2.1.2.1 e h9).1; omega)).mpr h9) hc
        | some z => exact ⟨z, rfl⟩
      obtain ⟨hd0, hr1, hr2, hr3, hr4⟩ := hI.2.1.2.1 d0 hsk
      have hl0s := hl
      rw [hsk] at hl
      have hl : lv_has ls 2 [(1, .int (nI d0)), (0, .ref (pz_ax a))] := hl
      refine lv_aload_n hx hb dXP_rebuild_30 rfl (lv_at hl 1 rfl) ?_
      refine va_get (D := (dC, dI)) (ci := 2) (v := .ref (pz_ad a)) (C := "ParityArray") (T := TXP) (N := 5) hx hb hts (fun w h => List.mem_cons_of_mem _ (inXP w h)) hown hK hP 0 rfl rfl 0 (by decide) (hts _ (List.mem_cons_of_mem _ tw_80)) (fun _ h9 => h9) rfl dXP_rebuild_31 ?_
      refine lv_iload_n hx hb dXP_rebuild_34 rfl (lv_at hl 0 rfl) ?_
      refine pz_ald hx hb hK hP 1 rfl hd0 dXP_rebuild_35 ?_
      refine va_getN (D := (dC, dI)) (ci := 0) (v := .int (pz_b (pz_dd (dk d0)))) (C := "ParityArray$Disk") (T := TXD) (N := 5) hx hb hts (fun w h => List.mem_cons_of_mem _ (inXD w h)) hown hK hP (6 + 3 * d0) (pz_X_o hd0) rfl 3 (by decide) (va_Nw.use rfl (hNW _ (List.mem_of_getElem? (i := 5) rfl))) (fun _ h9 => h9) rfl dXP_rebuild_36 ?_
      refine lv_if_eq (tgt := 52) hx hb dXP_rebuild_39 (by decide) (fun hc => ?_) (fun hc => ?_)
      · have hc : (pz_dd (dk d0)) = false := pz_b0.mp hc
        have hfr : pz_mf x = true := by rw [hr3] at hc; cases h9 : pz_mf x; rw [h9] at hc; cases hc; rfl
        refine lv_aload_n hx hb dXP_rebuild_52 rfl (lv_at hl 1 rfl) ?_
        refine lv_iload_n hx hb dXP_rebuild_53 rfl (lv_at hl 0 rfl) ?_
        refine lv_aload_n hx hb dXP_rebuild_54 rfl (lv_at hl 1 rfl) ?_
        refine va_get (D := (dC, dI)) (ci := 2) (v := .ref (pz_ad a)) (C := "ParityArray") (T := TXP) (N := 5) hx hb hts (fun w h => List.mem_cons_of_mem _ (inXP w h)) hown hK hP 0 rfl rfl 0 (by decide) (hts _ (List.mem_cons_of_mem _ tw_80)) (fun _ h9 => h9) rfl dXP_rebuild_55 ?_
        refine lv_iload_n hx hb dXP_rebuild_58 rfl (lv_at hl 0 rfl) ?_
        refine pz_ald hx hb hK hP 1 rfl hd0 dXP_rebuild_59 ?_
        refine va_getN (D := (dC, dI)) (ci := 0) (v := .int (nI (pz_th (dk d0)))) (C := "ParityArray$Disk") (T := TXD) (N := 5) hx hb hts (fun w h => List.mem_cons_of_mem _ (inXD w h)) hown hK hP (6 + 3 * d0) (pz_X_o hd0) rfl 4 (by decide) (va_Nw.use rfl (hNW _ (List.mem_of_getElem? (i := 6) rfl))) (fun _ h9 => h9) rfl dXP_rebuild_60 ?_
        have hPc := hP
        have hDc := hD
        have hFc := pz_W_F hD hS hA
        refine va_callv (va_runV (As := [.int (nI d0), .int (nI (pz_th (dk d0)))]) (rest := []) ⟨hx, hb, hml, hown, hts⟩ (c_XP_rebuildStripe l dC dI _ a cJ cD dk su bl pt py d0 (pz_th (dk d0)) hth hd0 (by omega)) (cwV 2 hts (pz_gc (List.mem_cons_of_mem _ tw_317) rfl (pz_gc (List.mem_cons_of_mem _ tw_319) rfl (pz_gc (List.mem_cons_of_mem _ ts_6) rfl (pz_gc (List.mem_cons_of_mem _ tw_1) rfl (pz_gi tcXP_rebuildStripe))))) rfl rfl rfl (by decide +kernel) ⟨Nat.le_of_ble_eq_true rfl, Nat.le_of_ble_eq_true rfl⟩) (pz_preVw (va_recv hK hPc (q0 := 0) rfl rfl) hPc hK hDc) rfl rfl hl.1 rfl (lv_room (Nat.le_of_ble_eq_true rfl)) dXP_rebuild_63 ⟨Nat.zero_le _, Nat.zero_le _⟩) hS (fun q _ h => hFc q h) hFc (fun u t H1 locs ht hvm hw hB hz hk1 hS => ?_)
        obtain ⟨hP1, hK1, hD1⟩ := hB
        rw [ht] at hP1
        obtain ⟨row9, rfl⟩ : ∃ z, z = u := ⟨_, rfl⟩
        obtain ⟨hP, hD⟩ := pz_W_J hP1 hFc hD1
        clear hPc hDc hFc hP1 hD1 hK1 hk1 hz ht hvm
        generalize H1 = H at hP hS ⊢
        refine lv_aload_n hx hb dXP_rebuild_66 rfl (lv_at hl 1 rfl) ?_
        refine va_get (D := (dC, dI)) (ci := 2) (v := .ref (pz_ad a)) (C := "ParityArray") (T := TXP) (N := 5) hx hb hts (fun w h => List.mem_cons_of_mem _ (inXP w h)) hown hK hP 0 rfl rfl 0 (by decide) (hts _ (List.mem_cons_of_mem _ tw_80)) (fun _ h9 => h9) rfl dXP_rebuild_67 ?_
        refine lv_iload_n hx hb dXP_rebuild_70 rfl (lv_at hl 0 rfl) ?_
        refine pz_ald hx hb hK hP 1 rfl hd0 dXP_rebuild_71 ?_
        refine lv_dup hx hb dXP_rebuild_72 rfl ?_
        refine va_getN (D := (dC, dI)) (ci := 0) (v := .int (nI (pz_th ((va_up dk d0 (pz_dwr (dk d0) (pz_th (dk d0)) row9 128)) d0)))) (C := "ParityArray$Disk") (T := TXD) (N := 5) hx hb hts (fun w h => List.mem_cons_of_mem _ (inXD w h)) hown hK hP (6 + 3 * d0) (pz_X_o hd0) rfl 4 (by decide) (va_Nw.use rfl (hNW _ (List.mem_of_getElem? (i := 6) rfl))) (fun _ h9 => h9) rfl dXP_rebuild_73 ?_
        refine lv_topi (nm_r (show nI (pz_th ((va_up dk d0 (pz_dwr (dk d0) (pz_th (dk d0)) row9 128)) d0)) = nI (pz_th (dk d0)) from by rw [pz_up_s]; rfl) ?_)
        refine lv_iconst (v := nI 1) hx hb dXP_rebuild_76 (by decide) ?_
        refine lv_iadd hx hb dXP_rebuild_77 ?_
        refine lv_topi (nm_r (nI_add (pz_th (dk d0)) 1) ?_)
        refine va_putN (D := (dC, dI)) (ci := 0) (v := .int (nI (pz_th (dk d0) + 1))) (ty := .int) (C := "ParityArray$Disk") (T := TXD) (N := 5) hx hb hts (fun w h => List.mem_cons_of_mem _ (inXD w h)) tyXD tyXD_ok nmXD hown hK hP hD hS (6 + 3 * d0) (pz_X_o hd0) rfl 4 (by decide) (va_Nw.use rfl (hNW _ (List.mem_of_getElem? (i := 6) rfl))) (fun _ h9 => h9) rfl (by decide +kernel) rfl rfl (Nat.le_of_ble_eq_true rfl) dXP_rebuild_78 (fun H locs hP hD hS => ?_)
        have e9 := pz_X_set (a := a) (cJ := cJ) (cD := cD) (dk := va_up dk d0 (pz_dwr (dk d0) (pz_th (dk d0)) row9 128)) (su := su) (bl := row9) (pt := pt) (py := py) hd0 (pz_rb ((va_up dk d0 (pz_dwr (dk d0) (pz_th (dk d0)) row9 128)) d0)) (pz_dd ((va_up dk d0 (pz_dwr (dk d0) (pz_th (dk d0)) row9 128)) d0)) (pz_th (dk d0) + 1)
        have hP : va_P (dC, dI) vwCl (pz_XW a cJ cD (va_up (va_up dk d0 (pz_dwr (dk d0) (pz_th (dk d0)) row9 128)) d0 (pz_R ((va_up dk d0 (pz_dwr (dk d0) (pz_th (dk d0)) row9 128)) d0), pz_rc ((va_up dk d0 (pz_dwr (dk d0) (pz_th (dk d0)) row9 128)) d0), pz_rb ((va_up dk d0 (pz_dwr (dk d0) (pz_th (dk d0)) row9 128)) d0), pz_dd ((va_up dk d0 (pz_dwr (dk d0) (pz_th (dk d0)) row9 128)) d0), pz_th (dk d0) + 1)) su row9 pt py) H := e9 ▸ hP
        have hD : va_D A (pz_XW a cJ cD (va_up (va_up dk d0 (pz_dwr (dk d0) (pz_th (dk d0)) row9 128)) d0 (pz_R ((va_up dk d0 (pz_dwr (dk d0) (pz_th (dk d0)) row9 128)) d0), pz_rc ((va_up dk d0 (pz_dwr (dk d0) (pz_th (dk d0)) row9 128)) d0), pz_rb ((va_up dk d0 (pz_dwr (dk d0) (pz_th (dk d0)) row9 128)) d0), pz_dd ((va_up dk d0 (pz_dwr (dk d0) (pz_th (dk d0)) row9 128)) d0), pz_th (dk d0) + 1)) su row9 pt py) := e9 ▸ hD
        clear e9
        have e9 : va_up (va_up dk d0 (pz_dwr (dk d0) (pz_th (dk d0)) row9 128)) d0 (pz_R ((va_up dk d0 (pz_dwr (dk d0) (pz_th (dk d0)) row9 128)) d0), pz_rc ((va_up dk d0 (pz_dwr (dk d0) (pz_th (dk d0)) row9 128)) d0), pz_rb ((va_up dk d0 (pz_dwr (dk d0) (pz_th (dk d0)) row9 128)) d0), pz_dd ((va_up dk d0 (pz_dwr (dk d0) (pz_th (dk d0)) row9 128)) d0), pz_th (dk d0) + 1) = va_up dk d0 (pz_wr (pz_R (dk d0)) (pz_th (dk d0)) row9 128, (dk d0).2.1, (dk d0).2.2.1, (dk d0).2.2.2.1, pz_th (dk d0) + 1) := by rw [bx_uu, pz_up_s]; rfl
        rw [e9] at hP hD
        refine lv_sipush (v := nI 150) hx hb dXP_rebuild_81 (by decide) ?_
        refine lv_aload_n hx hb dXP_rebuild_84 rfl (lv_at hl 1 rfl) ?_
        refine va_get (D := (dC, dI)) (ci := 2) (v := .ref (pz_ad a)) (C := "ParityArray") (T := TXP) (N := 5) hx hb hts (fun w h => List.mem_cons_of_mem _ (inXP w h)) hown hK hP 0 rfl rfl 0 (by decide) (hts _ (List.mem_cons_of_mem _ tw_80)) (fun _ h9 => h9) rfl dXP_rebuild_85 ?_
        refine lv_iload_n hx hb dXP_rebuild_88 rfl (lv_at hl 0 rfl) ?_
        refine pz_ald hx hb hK hP 1 rfl hd0 dXP_rebuild_89 ?_
        refine va_getN (D := (dC, dI)) (ci := 0) (v := .int (nI (pz_th ((va_up dk d0 (pz_wr (pz_R (dk d0)) (pz_th (dk d0)) row9 128, (dk d0).2.1, (dk d0).2.2.1, (dk d0).2.2.2.1, pz_th (dk d0) + 1)) d0)))) (C := "ParityArray$Disk") (T := TXD) (N := 5) hx hb hts (fun w h => List.mem_cons_of_mem _ (inXD w h)) hown hK hP (6 + 3 * d0) (pz_X_o hd0) rfl 4 (by decide) (va_Nw.use rfl (hNW _ (List.mem_of_getElem? (i := 6) rfl))) (fun _ h9 => h9) rfl dXP_rebuild_90 ?_
        refine lv_topi (nm_r (show nI (pz_th ((va_up dk d0 (pz_wr (pz_R (dk d0)) (pz_th (dk d0)) row9 128, (dk d0).2.1, (dk d0).2.2.1, (dk d0).2.2.2.1, pz_th (dk d0) + 1)) d0)) = nI (pz_th (dk d0) + 1) from by rw [pz_up_s]) ?_)
        refine lv_isub hx hb dXP_rebuild_93 ?_
        refine lv_topi (nm_r (pk_sub (by omega)) ?_)
        have hn : ¬ (pz_mo x = false ∨ pz_ms x = none ∨ pz_mf x = false) := by rw [hmo, hsk, hfr]; simp
        refine vx_ret ?_
        refine W.widen (k := 1) (n := 6) (Nat.le_of_ble_eq_true rfl) (Nat.le_of_ble_eq_true rfl) ?_
        exact W.iret (v := nI (150 - (pz_th (dk d0) + 1))) hx hb hr (fun t ht hW => ⟨⟨_, (va_up dk d0 (pz_wr (pz_R (dk d0)) (pz_th (dk d0)) row9 128, (dk d0).2.1, (dk d0).2.2.1, (dk d0).2.2.2.1, pz_th (dk d0) + 1), su, row9, pt, py), rfl, by unfold pz_gB; rw [if_neg hn]; exact ⟨by show _ = nI (150 - (pz_mr x + 1)); rw [hr2], rfl, hI.reb hmo hsk hfr hw⟩, by rw [ht]; exact hP, va_K.moved hW.alike hK, hD⟩, hS.F ht⟩) hS.2.2 dXP_rebuild_94
      · have hc : (pz_dd (dk d0)) = true := pz_bn hc
        have hfr : pz_mf x = false := by rw [hr3] at hc; cases h9 : pz_mf x; rfl; rw [h9] at hc; cases hc
        exact vx_throwS (own := "ParityArray") (cls := "java/lang/IllegalStateException") (text := "no disk is new") (names := ["java/lang/RuntimeException", "java/lang/Exception"]) (ik := 37) (is := 93) (ic := 41) (sa := sa 6) hx hb hl0 hown (by decide) (by decide) (hts _ (List.mem_cons_of_mem _ tw_106)) (hts _ (List.mem_cons_of_mem _ tw_8)) (hSR 6 (93, "no disk is new") rfl) (vx_hat (fun w h => hts w (List.mem_cons_of_mem _ (gm_41 w h))) bm_41 (fun w h => va_Nw.use (pz_nws_on w h) (hNW w h))) ok_41 hZ.1 hZ.2 hS (hl.1.trans hml.symm) dXP_rebuild_42 dXP_rebuild_45 dXP_rebuild_46 dXP_rebuild_48 dXP_rebuild_51 (fun x h => (hnt x h).elim) (Nat.le_of_ble_eq_true rfl) (Nat.le_of_ble_eq_true rfl) (Nat.le_of_ble_eq_true rfl) (Nat.le_of_ble_eq_true rfl) hlocks (fun t hvm h1 h2 => ⟨((dk, su, bl, pt, py), 1), ⟨by unfold pz_gB; rw [if_pos (Or.inr (Or.inr hfr))]; exact ⟨rfl, hI⟩, (show 1 ≠ 0 by decide)⟩, ⟨rfl, hP.kept (fun k q hq => h2 q.1 ((hP k q hq).lt)), va_K.moved hvm hK, hD⟩, pz_thF hS h1 h2⟩) hS.2.2 (Nat.le_of_ble_eq_true rfl) (Nat.le_of_ble_eq_true rfl)
  · have hc : (pz_on su) = false := pz_b0.mp hc
    have hmo : pz_mo x = false := hon9 ▸ hc
    exact vx_throwS (own := "ParityArray") (cls := "java/lang/IllegalStateException") (text := "power is off") (names := ["java/lang/RuntimeException", "java/lang/Exception"]) (ik := 37) (is := 39) (ic := 41) (sa := sa 0) hx hb hl0 hown (by decide) (by decide) (hts _ (List.mem_cons_of_mem _ tw_106)) (hts _ (List.mem_cons_of_mem _ tw_8)) (hSR 0 (39, "power is off") rfl) (vx_hat (fun w h => hts w (List.mem_cons_of_mem _ (gm_41 w h))) bm_41 (fun w h => va_Nw.use (pz_nws_on w h) (hNW w h))) ok_41 hZ.1 hZ.2 hS (hl.1.trans hml.symm) dXP_rebuild_10 dXP_rebuild_13 dXP_rebuild_14 dXP_rebuild_16 dXP_rebuild_19 (fun x h => (hnt x h).elim) (Nat.le_of_ble_eq_true rfl) (Nat.le_of_ble_eq_true rfl) (Nat.le_of_ble_eq_true rfl) (Nat.le_of_ble_eq_true rfl) hlocks (fun t hvm h1 h2 => ⟨((dk, su, bl, pt, py), 1), ⟨by unfold pz_gB; rw [if_pos (Or.inl hmo)]; exact ⟨rfl, hI⟩, (show 1 ≠ 0 by decide)⟩, ⟨rfl, hP.kept (fun k q hq => h2 q.1 ((hP k q hq).lt)), va_K.moved hvm hK, hD⟩, pz_thF hS h1 h2⟩) hS.2.2 (Nat.le_of_ble_eq_true rfl) (Nat.le_of_ble_eq_true rfl)

def pz_EX_XP_power : Nat → String := fun k => match k with
  | _ => "java/lang/IllegalArgumentException"
set_option maxHeartbeats 4000000 in
set_option maxRecDepth 100000 in
/-- power -/
theorem c_XP_power (l : Launch) (hl0 : l.stackTraces = false) (dC : Nat → ClassId) (dI : Nat → Nat → Nat) (sz : Nat) (a : pz_Ad) (cJ cD : ClassId) (dk : Nat → pz_Dk) (su : pz_Su) (bl pt py : Nat → Int64) (sa : Nat → Nat) (x : pz_Mu) (k b : Int32) (r0 : Bool) (hI : pz_Inv dk su x) : vx_Met l yXP_power wsXP_power ({ frames := 6, cells := 1, slots := 6, locals := 90 }) (va_Pc [.ref (pz_ax a), .int k, .int b, .int (pz_b r0)] (fun U => U.heap.size = sz ∧ va_P (dC, dI) vwCl (pz_XW a cJ cD dk su bl pt py) U.heap ∧ va_K (dC, dI) vwCl [(cJ, .long), (cD, .object "ParityArray$Disk")] U ∧ va_D (fun _ => True) (pz_XW a cJ cD dk su bl pt py) ∧ pz_NW U ∧ pz_SR sa U ∧ pz_ZS (va_A (pz_XW a cJ cD dk su bl pt py) sz) U U.heap)) (va_Qv (fun (u : pz_St) => (pz_gP x k b r0).2 = 0 ∧ pz_Inv u.1 u.2.1 (pz_gP x k b r0).1) (fun u t => va_P (dC, dI) vwCl (pz_XW a cJ cD u.1 u.2.1 u.2.2.1 u.2.2.2.1 u.2.2.2.2) t.heap ∧ va_K (dC, dI) vwCl [(cJ, .long), (cD, .object "ParityArray$Disk")] t ∧ va_D (va_A (pz_XW a cJ cD dk su bl pt py) sz) (pz_XW a cJ cD u.1 u.2.1 u.2.2.1 u.2.2.2.1 u.2.2.2.2)) (va_A (pz_XW a cJ cD dk su bl pt py) sz)) (vx_X (fun u : pz_St × Nat => ((pz_gP x k b r0).2 = u.2 ∧ pz_Inv u.1.1 u.1.2.1 (pz_gP x k b r0).1) ∧ u.2 ≠ 0) (fun E u t => E = pz_EX_XP_power u.2 ∧ va_P (dC, dI) vwCl (pz_XW a cJ cD u.1.1 u.1.2.1 u.1.2.2.1 u.1.2.2.2.1 u.1.2.2.2.2) t.heap ∧ va_K (dC, dI) vwCl [(cJ, .long), (cD, .object "ParityArray$Disk")] t ∧ va_D (va_A (pz_XW a cJ cD dk su bl pt py) sz) (pz_XW a cJ cD u.1.1 u.1.2.1 u.1.2.2.1 u.1.2.2.2.1 u.1.2.2.2.2)) (va_A (pz_XW a cJ cD dk su bl pt py) sz)) 1 6 (va_A (pz_XW a cJ cD dk su bl pt py) sz) := by
  refine vx_ofW (cc := cXP_power) (maxL := 4) (ret := none) (by decide) rfl ?_
  intro p e s m args below meth c s₁ B hml hnt hv
  obtain ⟨rfl, hsz, hP, hK, hD0, hNW, hSR, hZ⟩ := hv
  have hx := B.exec
  have hb := B.bytes
  have hr := B.returns
  have hts := atoms_spec (ws := wsXP_power) B.pre
  have hown : s.vm.findClass "ParityArray" = some m.cls := findClass_of_methodNamed B.named
  have hlocks := B.notSynchronized
  subst hsz
  have hD := hD0.self (sz := s.heap.size)
  generalize hAe : va_A (pz_XW a cJ cD dk su bl pt py) s.heap.size = A at hD hZ ⊢
  have hA : ∀ q : Nat, s.heap.size ≤ q → A q := fun q h => by rw [← hAe]; exact Or.inr h
  have hS : va_S A s.heap s.heap [] := va_S.rf
  have hl := lv_entry ([.ref (pz_ax a), .int k, .int b, .int (pz_b r0)]) (n := 4) (Nat.le_of_ble_eq_true rfl)
  rw [lg_entry_eq]
  generalize (lg_sl ([.ref (pz_ax a), .int k, .int b, .int (pz_b r0)]) ++ List.replicate (4 - (lg_sl ([.ref (pz_ax a), .int k, .int b, .int (pz_b r0)])).length) Slot.unset).toArray = ls at hl ⊢
  have hl : lv_has ls 4 [(0, .ref (pz_ax a)), (1, .int k), (2, .int b), (3, .int (pz_b r0))] := hl
  have hth : ∀ d, d < 5 → pz_th (dk d) ≤ 150 := fun d h9 => hI.2.1.th h9
  have hon9 : pz_on su = pz_mo x := hI.2.2.1
  obtain ⟨hcw, hcb⟩ := hI.2.2.b
  refine lv_iload_n hx hb dXP_power_0 rfl (lv_at hl 1 rfl) ?_
  refine lv_if_lt (tgt := 10) hx hb dXP_power_1 (by decide) (fun hc => ?_) (fun hc => ?_)
  · exact vx_throwS (own := "ParityArray") (cls := "java/lang/IllegalArgumentException") (text := "no such write") (names := ["java/lang/RuntimeException", "java/lang/Exception"]) (ik := 103) (is := 105) (ic := 107) (sa := sa 7) hx hb hl0 hown (by decide) (by decide) (hts _ (List.mem_cons_of_mem _ tw_329)) (hts _ (List.mem_cons_of_mem _ tw_14)) (hSR 7 (105, "no such write") rfl) (vx_hat (fun w h => hts w (List.mem_cons_of_mem _ (gm_107 w h))) bm_107 (fun w h => va_Nw.use (pz_nws_on w h) (hNW w h))) ok_107 hZ.1 hZ.2 hS (hl.1.trans hml.symm) dXP_power_10 dXP_power_13 dXP_power_14 dXP_power_16 dXP_power_19 (fun x h => (hnt x h).elim) (Nat.le_of_ble_eq_true rfl) (Nat.le_of_ble_eq_true rfl) (Nat.le_of_ble_eq_true rfl) (Nat.le_of_ble_eq_true rfl) hlocks (fun t hvm h1 h2 => ⟨((dk, su, bl, pt, py), 1), ⟨by unfold pz_gP; rw [if_pos (show pz_isW k b = false from decide_eq_false (fun h9 => Int32.not_le.mpr hc h9.1))]; exact ⟨rfl, hI⟩, (show 1 ≠ 0 by decide)⟩, ⟨rfl, hP.kept (fun k q hq => h2 q.1 ((hP k q hq).lt)), va_K.moved hvm hK, hD⟩, pz_thF hS h1 h2⟩) hS.2.2 (Nat.le_of_ble_eq_true rfl) (Nat.le_of_ble_eq_true rfl)
  · have h1 := hc
    refine lv_iload_n hx hb dXP_power_4 rfl (lv_at hl 1 rfl) ?_
    refine lv_bipush (v := nI 10) hx hb dXP_power_5 (by decide) ?_
    refine lv_icmp_le (tgt := 20) hx hb dXP_power_7 (by decide) (fun hc => ?_) (fun hc => ?_)
    · have h2 := hc
      refine lv_iload_n hx hb dXP_power_20 rfl (lv_at hl 2 rfl) ?_
      refine lv_if_lt (tgt := 31) hx hb dXP_power_21 (by decide) (fun hc => ?_) (fun hc => ?_)
      · exact vx_throwS (own := "ParityArray") (cls := "java/lang/IllegalArgumentException") (text := "no such byte") (names := ["java/lang/RuntimeException", "java/lang/Exception"]) (ik := 103) (is := 108) (ic := 107) (sa := sa 8) hx hb hl0 hown (by decide) (by decide) (hts _ (List.mem_cons_of_mem _ tw_329)) (hts _ (List.mem_cons_of_mem _ tw_14)) (hSR 8 (108, "no such byte") rfl) (vx_hat (fun w h => hts w (List.mem_cons_of_mem _ (gm_107 w h))) bm_107 (fun w h => va_Nw.use (pz_nws_on w h) (hNW w h))) ok_107 hZ.1 hZ.2 hS (hl.1.trans hml.symm) dXP_power_31 dXP_power_34 dXP_power_35 dXP_power_37 dXP_power_40 (fun x h => (hnt x h).elim) (Nat.le_of_ble_eq_true rfl) (Nat.le_of_ble_eq_true rfl) (Nat.le_of_ble_eq_true rfl) (Nat.le_of_ble_eq_true rfl) hlocks (fun t hvm h1 h2 => ⟨((dk, su, bl, pt, py), 1), ⟨by unfold pz_gP; rw [if_pos (show pz_isW k b = false from decide_eq_false (fun h9 => Int32.not_le.mpr hc h9.2.2.1))]; exact ⟨rfl, hI⟩, (show 1 ≠ 0 by decide)⟩, ⟨rfl, hP.kept (fun k q hq => h2 q.1 ((hP k q hq).lt)), va_K.moved hvm hK, hD⟩, pz_thF hS h1 h2⟩) hS.2.2 (Nat.le_of_ble_eq_true rfl) (Nat.le_of_ble_eq_true rfl)
      · have h3 := hc
        refine lv_iload_n hx hb dXP_power_24 rfl (lv_at hl 2 rfl) ?_
        refine lv_sipush (v := nI 200) hx hb dXP_power_25 (by decide) ?_
        refine lv_icmp_le (tgt := 41) hx hb dXP_power_28 (by decide) (fun hc => ?_) (fun hc => ?_)
        · obtain ⟨k0, b0, hk0, hb0, rfl, rfl⟩ := pz_isW_of (decide_eq_true ⟨Int32.not_lt.mp h1, (pz_lt_succ rfl (by decide)).mp h2, Int32.not_lt.mp h3, (pz_lt_succ rfl (by decide)).mp hc⟩ : pz_isW k b = true)
          refine lv_aload_n hx hb dXP_power_41 rfl (lv_at hl 0 rfl) ?_
          refine va_get (D := (dC, dI)) (ci := 2) (v := .ref (pz_as a)) (C := "ParityArray") (T := TXP) (N := 5) hx hb hts (fun w h => List.mem_cons_of_mem _ (inXP w h)) hown hK hP 0 rfl rfl 1 (by decide) (hts _ (List.mem_cons_of_mem _ tw_81)) (fun _ h9 => h9) rfl dXP_power_42 ?_
          refine lv_iload_n hx hb dXP_power_45 rfl (lv_at hl 1 rfl) ?_
          refine lv_iload_n hx hb dXP_power_46 rfl (lv_at hl 2 rfl) ?_
          refine lv_iload_n hx hb dXP_power_47 rfl (lv_at hl 3 rfl) ?_
          have hPc := pz_Xs_P hP
          have hDc := pz_Xs_D hD
          have hFc := pz_Xs_F hD hS hA
          refine va_callv (va_runV (As := [.int (nI k0), .int (nI b0), .int (pz_b r0)]) (rest := []) ⟨hx, hb, hml, hown, hts⟩ (c_XS_plan l dC dI _ (pz_as a) su k0 b0 r0) (cwV 3 hts (pz_gc (List.mem_cons_of_mem _ tw_346) rfl (pz_gc (List.mem_cons_of_mem _ tw_347) rfl (pz_gc (List.mem_cons_of_mem _ tw_348) rfl (pz_gc (List.mem_cons_of_mem _ tw_2) rfl (pz_gi tcXS_plan))))) rfl rfl rfl (by decide +kernel) ⟨Nat.le_of_ble_eq_true rfl, Nat.le_of_ble_eq_true rfl⟩) (pz_preVw (va_recv hK hPc (q0 := 0) rfl rfl) hPc (hK.sub [] rfl) hDc) rfl rfl hl.1 rfl (lv_room (Nat.le_of_ble_eq_true rfl)) dXP_power_48 ⟨Nat.zero_le _, Nat.zero_le _⟩) hS (fun q _ h => hFc q h) hFc (fun u t H1 locs ht hvm hw hB hz hk1 hS => ?_)
          obtain ⟨hP1, hK1, hD1⟩ := hB
          rw [ht] at hP1
          subst hw
          obtain ⟨hP, hD⟩ := pz_Xs_J hP hD hk1 hFc hP1 hD1
          clear hPc hDc hFc hP1 hD1 hK1 hk1 hz ht hvm
          generalize H1 = H at hP hS ⊢
          refine vx_ret ?_
          refine W.widen (k := 1) (n := 6) (Nat.le_of_ble_eq_true rfl) (Nat.le_of_ble_eq_true rfl) ?_
          exact W.vret hx hb hr (fun t ht hW => ⟨⟨(dk, (pz_on su, true, r0, k0, b0, pz_fa su, pz_wc su), bl, pt, py), rfl, by unfold pz_gP; rw [if_neg (by rw [pz_isW_nI hk0 hb0]; decide), nI_clamp (by omega), nI_clamp (by omega)]; exact ⟨rfl, hI.pow hk0 hb0 r0⟩, by rw [ht]; exact hP, va_K.moved hW.alike hK, hD⟩, hS.F ht⟩) hS.2.2 dXP_power_51
        · exact vx_throwS (own := "ParityArray") (cls := "java/lang/IllegalArgumentException") (text := "no such byte") (names := ["java/lang/RuntimeException", "java/lang/Exception"]) (ik := 103) (is := 108) (ic := 107) (sa := sa 8) hx hb hl0 hown (by decide) (by decide) (hts _ (List.mem_cons_of_mem _ tw_329)) (hts _ (List.mem_cons_of_mem _ tw_14)) (hSR 8 (108, "no such byte") rfl) (vx_hat (fun w h => hts w (List.mem_cons_of_mem _ (gm_107 w h))) bm_107 (fun w h => va_Nw.use (pz_nws_on w h) (hNW w h))) ok_107 hZ.1 hZ.2 hS (hl.1.trans hml.symm) dXP_power_31 dXP_power_34 dXP_power_35 dXP_power_37 dXP_power_40 (fun x h => (hnt x h).elim) (Nat.le_of_ble_eq_true rfl) (Nat.le_of_ble_eq_true rfl) (Nat.le_of_ble_eq_true rfl) (Nat.le_of_ble_eq_true rfl) hlocks (fun t hvm h1 h2 => ⟨((dk, su, bl, pt, py), 1), ⟨by unfold pz_gP; rw [if_pos (show pz_isW k b = false from decide_eq_false (fun h9 => hc ((pz_lt_succ rfl (by decide)).mpr h9.2.2.2)))]; exact ⟨rfl, hI⟩, (show 1 ≠ 0 by decide)⟩, ⟨rfl, hP.kept (fun k q hq => h2 q.1 ((hP k q hq).lt)), va_K.moved hvm hK, hD⟩, pz_thF hS h1 h2⟩) hS.2.2 (Nat.le_of_ble_eq_true rfl) (Nat.le_of_ble_eq_true rfl)
    · exact vx_throwS (own := "ParityArray") (cls := "java/lang/IllegalArgumentException") (text := "no such write") (names := ["java/lang/RuntimeException", "java/lang/Exception"]) (ik := 103) (is := 105) (ic := 107) (sa := sa 7) hx hb hl0 hown (by decide) (by decide) (hts _ (List.mem_cons_of_mem _ tw_329)) (hts _ (List.mem_cons_of_mem _ tw_14)) (hSR 7 (105, "no such write") rfl) (vx_hat (fun w h => hts w (List.mem_cons_of_mem _ (gm_107 w h))) bm_107 (fun w h => va_Nw.use (pz_nws_on w h) (hNW w h))) ok_107 hZ.1 hZ.2 hS (hl.1.trans hml.symm) dXP_power_10 dXP_power_13 dXP_power_14 dXP_power_16 dXP_power_19 (fun x h => (hnt x h).elim) (Nat.le_of_ble_eq_true rfl) (Nat.le_of_ble_eq_true rfl) (Nat.le_of_ble_eq_true rfl) (Nat.le_of_ble_eq_true rfl) hlocks (fun t hvm h1 h2 => ⟨((dk, su, bl, pt, py), 1), ⟨by unfold pz_gP; rw [if_pos (show pz_isW k b = false from decide_eq_false (fun h9 => hc ((pz_lt_succ rfl (by decide)).mpr h9.2.1)))]; exact ⟨rfl, hI⟩, (show 1 ≠ 0 by decide)⟩, ⟨rfl, hP.kept (fun k q hq => h2 q.1 ((hP k q hq).lt)), va_K.moved hvm hK, hD⟩, pz_thF hS h1 h2⟩) hS.2.2 (Nat.le_of_ble_eq_true rfl) (Nat.le_of_ble_eq_true rfl)

