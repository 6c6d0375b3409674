/-! the reference: public methods (laid by a program) -/
set_option maxHeartbeats 4000000 in
set_option maxRecDepth 100000 in
theorem c_XM_get (l : Launch) (dC : Nat → ClassId) (dI : Nat → Nat → Nat) (sz : Nat) (h0 aB : Nat) (cB : ClassId) (f : Nat → Int32) (x : pz_Mu) (th : Nat) (n i : Int32) (hm1 : pz_mr x ≤ 150) (hm2 : pz_mF x ≤ 2) (hm3 : pz_mw x ≤ 10) (hm4 : pz_mc x ≤ 200) (hm5 : ∀ e, pz_ms x = some e → e < 5) (hth : th < 10) (hBy : pz_By f (pz_mM x)) : Met l yXM_get wsXM_get ({ frames := 1, cells := 0, slots := 0, locals := 24 }) (va_Pc [.ref h0, .int n, .int i] (fun U => U.heap.size = sz ∧ va_P (dC, dI) vwCl (pz_MW h0 aB cB f x th) U.heap ∧ va_K (dC, dI) vwCl [(cB, .byte)] U ∧ va_D (fun _ => True) (pz_MW h0 aB cB f x th))) (va_Ql (fun (r : Int64) (u : pz_Mu × Nat × (Nat → Int32)) => (r, u.2.1) = pz_gG x n i ∧ u.1 = x ∧ u.2.2 = f) (fun u t => va_P (dC, dI) vwCl (pz_MW h0 aB cB u.2.2 u.1 u.2.1) t.heap ∧ va_K (dC, dI) vwCl [(cB, .byte)] t ∧ va_D (va_A (pz_MW h0 aB cB f x th) sz) (pz_MW h0 aB cB u.2.2 u.1 u.2.1)) (va_A (pz_MW h0 aB cB f x th) sz)) 0 0 (va_A (pz_MW h0 aB cB f x th) sz) := by
  refine Met.ofW (cc := cXM_get) (maxL := 3) (ret := (some .long)) (by decide) rfl ?_
  intro p e s m args below meth c s₁ B hml hv
  obtain ⟨rfl, hsz, hP, hK, hD0⟩ := hv
  have hx := B.exec
  have hb := B.bytes
  have hr := B.returns
  have hts := atoms_spec (ws := wsXM_get) B.pre
  have hown : s.vm.findClass "ParityArrayModel" = some m.cls := findClass_of_methodNamed B.named
  have hlocks := B.notSynchronized
  subst hsz
  have hD := hD0.self (sz := s.heap.size)
  generalize hAe : va_A (pz_MW h0 aB cB f x th) s.heap.size = A at hD ⊢
  have hA : ∀ q : Nat, s.heap.size ≤ q → A q := fun q h => by rw [← hAe]; exact Or.inr h
  have hS : va_S A s.heap s.heap [] := va_S.rf
  have hl := lv_entry ([.ref h0, .int n, .int i]) (n := 3) (Nat.le_of_ble_eq_true rfl)
  rw [lg_entry_eq]
  generalize (lg_sl ([.ref h0, .int n, .int i]) ++ List.replicate (3 - (lg_sl ([.ref h0, .int n, .int i])).length) Slot.unset).toArray = ls at hl ⊢
  have hl : lv_has ls 3 [(0, .ref h0), (1, .int n), (2, .int i)] := hl
  have hP : va_P (dC, dI) vwCl [(h0, .inr (3, [.ref aB, .int (pz_b (pz_mo x)), .int (pz_o (pz_ms x)), .int (pz_b (pz_mf x)), .int (nI (pz_mr x)), .int (nI (pz_mF x)), .int (nI (pz_mw x)), .int (nI (pz_mc x)), .int (nI th)])), (aB, .inl (cB, 76800, .inl f))] s.heap := hP
  have hD : va_D A [(h0, .inr (3, [.ref aB, .int (pz_b (pz_mo x)), .int (pz_o (pz_ms x)), .int (pz_b (pz_mf x)), .int (nI (pz_mr x)), .int (nI (pz_mF x)), .int (nI (pz_mw x)), .int (nI (pz_mc x)), .int (nI th)])), (aB, .inl (cB, 76800, .inl f))] := hD
  refine lv_aload_n hx hb dXM_get_0 rfl (lv_at hl 0 rfl) ?_
  refine va_get (D := (dC, dI)) (ci := 3) (v := .int (pz_b (pz_mo x))) (C := "ParityArrayModel") (T := TXM) (N := 9) hx hb hts (fun w h => List.mem_cons_of_mem _ (inXM w h)) hown hK hP 0 rfl rfl 1 (by decide) (hts _ (List.mem_cons_of_mem _ tw_392)) (fun _ h9 => h9) rfl dXM_get_1 ?_
  refine lv_if_ne (tgt := 14) hx hb dXM_get_4 (by decide) (fun hc => ?_) (fun hc => ?_)
  · have hc : (pz_mo x) = true := pz_bn hc
    have hon := hc
    refine lv_iload_n hx hb dXM_get_14 rfl (lv_at hl 1 rfl) ?_
    refine lv_if_lt (tgt := 35) hx hb dXM_get_15 (by decide) (fun hc => ?_) (fun hc => ?_)
    · have hL := show pz_isL n i = false from decide_eq_false (fun h9 => Int32.not_le.mpr hc h9.1)
      refine lv_aload_n hx hb dXM_get_35 rfl (lv_at hl 0 rfl) ?_
      refine lv_iconst (v := nI 2) hx hb dXM_get_36 (by decide) ?_
      have hPc := hP
      have hDc := hD
      have hFc := va_free (wc := [(h0, .inr (3, [.ref aB, .int (pz_b (pz_mo x)), .int (pz_o (pz_ms x)), .int (pz_b (pz_mf x)), .int (nI (pz_mr x)), .int (nI (pz_mF x)), .int (nI (pz_mw x)), .int (nI (pz_mc x)), .int (nI th)])), (aB, .inl (cB, 76800, .inl f))]) hD hS hA [0, 1] rfl
      refine va_calli (va_runV (As := [.int (nI 2)]) (rest := []) ⟨hx, hb, hml, hown, hts⟩ (c_XM_fails l dC dI _ h0 aB cB f x th 2) (cwV 1 hts (pz_gc (List.mem_cons_of_mem _ tw_427) rfl (pz_gc (List.mem_cons_of_mem _ tw_429) rfl (pz_gc (List.mem_cons_of_mem _ ts_9) rfl (pz_gc (List.mem_cons_of_mem _ tw_4) rfl (pz_gi tcXM_fails))))) rfl rfl rfl (by decide +kernel) ⟨Nat.le_of_ble_eq_true rfl, Nat.le_of_ble_eq_true rfl⟩) (pz_preVw (va_recv hK hPc (q0 := 0) rfl rfl) hPc hK hDc) rfl rfl hl.1 rfl (lv_room (Nat.le_of_ble_eq_true rfl)) dXM_get_37 ⟨Nat.zero_le _, Nat.zero_le _⟩) hS (fun q _ h => hFc q h) hFc (fun r u t H1 locs ht hvm hw hB hz hk1 hS => ?_)
      obtain ⟨hP1, hK1, hD1⟩ := hB
      rw [ht] at hP1
      obtain ⟨rfl, rfl⟩ := hw
      obtain ⟨hP, hD⟩ := va_join (wr := []) hP hD [0, 1] [] rfl rfl (by decide) (by decide) hk1 hFc hP1 hD1
      clear hPc hDc hFc hP1 hD1 hK1 hk1 hz ht hvm
      generalize H1 = H at hP hS ⊢
      have hP : va_P (dC, dI) vwCl [(h0, .inr (3, [.ref aB, .int (pz_b (pz_mo x)), .int (pz_o (pz_ms x)), .int (pz_b (pz_mf x)), .int (nI (pz_mr x)), .int (nI (pz_mF x)), .int (nI (pz_mw x)), .int (nI (pz_mc x)), .int (nI 2)])), (aB, .inl (cB, 76800, .inl f))] H := hP
      have hD : va_D A [(h0, .inr (3, [.ref aB, .int (pz_b (pz_mo x)), .int (pz_o (pz_ms x)), .int (pz_b (pz_mf x)), .int (nI (pz_mr x)), .int (nI (pz_mF x)), .int (nI (pz_mw x)), .int (nI (pz_mc x)), .int (nI 2)])), (aB, .inl (cB, 76800, .inl f))] := hD
      refine lv_i2l (v := 0) hx hb dXM_get_40 (by decide) ?_
      exact W.lret (v := 0) hx hb hr (fun t ht hW => ⟨⟨_, (x, 2, f), rfl, ⟨by unfold pz_gG; rw [if_neg (by rw [hon]; decide), if_pos hL], rfl, rfl⟩, by rw [ht]; exact hP, va_K.moved hW.alike hK, hAe ▸ hD⟩, hS.F ht⟩) hS.2.2 dXM_get_41
    · have h1 := hc
      refine lv_iload_n hx hb dXM_get_18 rfl (lv_at hl 1 rfl) ?_
      refine lv_sipush (v := nI 600) hx hb dXM_get_19 (by decide) ?_
      refine lv_icmp_ge (tgt := 35) hx hb dXM_get_22 (by decide) (fun hc => ?_) (fun hc => ?_)
      · have hL := show pz_isL n i = false from decide_eq_false (fun h9 => Int32.not_lt.mpr hc h9.2.1)
        refine lv_aload_n hx hb dXM_get_35 rfl (lv_at hl 0 rfl) ?_
        refine lv_iconst (v := nI 2) hx hb dXM_get_36 (by decide) ?_
        have hPc := hP
        have hDc := hD
        have hFc := va_free (wc := [(h0, .inr (3, [.ref aB, .int (pz_b (pz_mo x)), .int (pz_o (pz_ms x)), .int (pz_b (pz_mf x)), .int (nI (pz_mr x)), .int (nI (pz_mF x)), .int (nI (pz_mw x)), .int (nI (pz_mc x)), .int (nI th)])), (aB, .inl (cB, 76800, .inl f))]) hD hS hA [0, 1] rfl
        refine va_calli (va_runV (As := [.int (nI 2)]) (rest := []) ⟨hx, hb, hml, hown, hts⟩ (c_XM_fails l dC dI _ h0 aB cB f x th 2) (cwV 1 hts (pz_gc (List.mem_cons_of_mem _ tw_427) rfl (pz_gc (List.mem_cons_of_mem _ tw_429) rfl (pz_gc (List.mem_cons_of_mem _ ts_9) rfl (pz_gc (List.mem_cons_of_mem _ tw_4) rfl (pz_gi tcXM_fails))))) rfl rfl rfl (by decide +kernel) ⟨Nat.le_of_ble_eq_true rfl, Nat.le_of_ble_eq_true rfl⟩) (pz_preVw (va_recv hK hPc (q0 := 0) rfl rfl) hPc hK hDc) rfl rfl hl.1 rfl (lv_room (Nat.le_of_ble_eq_true rfl)) dXM_get_37 ⟨Nat.zero_le _, Nat.zero_le _⟩) hS (fun q _ h => hFc q h) hFc (fun r u t H1 locs ht hvm hw hB hz hk1 hS => ?_)
        obtain ⟨hP1, hK1, hD1⟩ := hB
        rw [ht] at hP1
        obtain ⟨rfl, rfl⟩ := hw
        obtain ⟨hP, hD⟩ := va_join (wr := []) hP hD [0, 1] [] rfl rfl (by decide) (by decide) hk1 hFc hP1 hD1
        clear hPc hDc hFc hP1 hD1 hK1 hk1 hz ht hvm
        generalize H1 = H at hP hS ⊢
        have hP : va_P (dC, dI) vwCl [(h0, .inr (3, [.ref aB, .int (pz_b (pz_mo x)), .int (pz_o (pz_ms x)), .int (pz_b (pz_mf x)), .int (nI (pz_mr x)), .int (nI (pz_mF x)), .int (nI (pz_mw x)), .int (nI (pz_mc x)), .int (nI 2)])), (aB, .inl (cB, 76800, .inl f))] H := hP
        have hD : va_D A [(h0, .inr (3, [.ref aB, .int (pz_b (pz_mo x)), .int (pz_o (pz_ms x)), .int (pz_b (pz_mf x)), .int (nI (pz_mr x)), .int (nI (pz_mF x)), .int (nI (pz_mw x)), .int (nI (pz_mc x)), .int (nI 2)])), (aB, .inl (cB, 76800, .inl f))] := hD
        refine lv_i2l (v := 0) hx hb dXM_get_40 (by decide) ?_
        exact W.lret (v := 0) hx hb hr (fun t ht hW => ⟨⟨_, (x, 2, f), rfl, ⟨by unfold pz_gG; rw [if_neg (by rw [hon]; decide), if_pos hL], rfl, rfl⟩, by rw [ht]; exact hP, va_K.moved hW.alike hK, hAe ▸ hD⟩, hS.F ht⟩) hS.2.2 dXM_get_41
      · have h2 := hc
        refine lv_iload_n hx hb dXM_get_25 rfl (lv_at hl 2 rfl) ?_
        refine lv_if_lt (tgt := 35) hx hb dXM_get_26 (by decide) (fun hc => ?_) (fun hc => ?_)
        · have hL := show pz_isL n i = false from decide_eq_false (fun h9 => Int32.not_le.mpr hc h9.2.2.1)
          refine lv_aload_n hx hb dXM_get_35 rfl (lv_at hl 0 rfl) ?_
          refine lv_iconst (v := nI 2) hx hb dXM_get_36 (by decide) ?_
          have hPc := hP
          have hDc := hD
          have hFc := va_free (wc := [(h0, .inr (3, [.ref aB, .int (pz_b (pz_mo x)), .int (pz_o (pz_ms x)), .int (pz_b (pz_mf x)), .int (nI (pz_mr x)), .int (nI (pz_mF x)), .int (nI (pz_mw x)), .int (nI (pz_mc x)), .int (nI th)])), (aB, .inl (cB, 76800, .inl f))]) hD hS hA [0, 1] rfl
          refine va_calli (va_runV (As := [.int (nI 2)]) (rest := []) ⟨hx, hb, hml, hown, hts⟩ (c_XM_fails l dC dI _ h0 aB cB f x th 2) (cwV 1 hts (pz_gc (List.mem_cons_of_mem _ tw_427) rfl (pz_gc (List.mem_cons_of_mem _ tw_429) rfl (pz_gc (List.mem_cons_of_mem _ ts_9) rfl (pz_gc (List.mem_cons_of_mem _ tw_4) rfl (pz_gi tcXM_fails))))) rfl rfl rfl (by decide +kernel) ⟨Nat.le_of_ble_eq_true rfl, Nat.le_of_ble_eq_true rfl⟩) (pz_preVw (va_recv hK hPc (q0 := 0) rfl rfl) hPc hK hDc) rfl rfl hl.1 rfl (lv_room (Nat.le_of_ble_eq_true rfl)) dXM_get_37 ⟨Nat.zero_le _, Nat.zero_le _⟩) hS (fun q _ h => hFc q h) hFc (fun r u t H1 locs ht hvm hw hB hz hk1 hS => ?_)
          obtain ⟨hP1, hK1, hD1⟩ := hB
          rw [ht] at hP1
          obtain ⟨rfl, rfl⟩ := hw
          obtain ⟨hP, hD⟩ := va_join (wr := []) hP hD [0, 1] [] rfl rfl (by decide) (by decide) hk1 hFc hP1 hD1
          clear hPc hDc hFc hP1 hD1 hK1 hk1 hz ht hvm
          generalize H1 = H at hP hS ⊢
          have hP : va_P (dC, dI) vwCl [(h0, .inr (3, [.ref aB, .int (pz_b (pz_mo x)), .int (pz_o (pz_ms x)), .int (pz_b (pz_mf x)), .int (nI (pz_mr x)), .int (nI (pz_mF x)), .int (nI (pz_mw x)), .int (nI (pz_mc x)), .int (nI 2)])), (aB, .inl (cB, 76800, .inl f))] H := hP
          have hD : va_D A [(h0, .inr (3, [.ref aB, .int (pz_b (pz_mo x)), .int (pz_o (pz_ms x)), .int (pz_b (pz_mf x)), .int (nI (pz_mr x)), .int (nI (pz_mF x)), .int (nI (pz_mw x)), .int (nI (pz_mc x)), .int (nI 2)])), (aB, .inl (cB, 76800, .inl f))] := hD
          refine lv_i2l (v := 0) hx hb dXM_get_40 (by decide) ?_
          exact W.lret (v := 0) hx hb hr (fun t ht hW => ⟨⟨_, (x, 2, f), rfl, ⟨by unfold pz_gG; rw [if_neg (by rw [hon]; decide), if_pos hL], rfl, rfl⟩, by rw [ht]; exact hP, va_K.moved hW.alike hK, hAe ▸ hD⟩, hS.F ht⟩) hS.2.2 dXM_get_41
        · have h3 := hc
          refine lv_iload_n hx hb dXM_get_29 rfl (lv_at hl 2 rfl) ?_
          refine lv_bipush (v := nI 16) hx hb dXM_get_30 (by decide) ?_
          refine lv_icmp_lt (tgt := 42) hx hb dXM_get_32 (by decide) (fun hc => ?_) (fun hc => ?_)
          · obtain ⟨n0, i0, hn0, hi0, rfl, rfl⟩ := pz_isL_of (decide_eq_true ⟨Int32.not_lt.mp h1, Int32.not_le.mp h2, Int32.not_lt.mp h3, hc⟩ : pz_isL n i = true)
            refine lv_aload_n hx hb dXM_get_42 rfl (lv_at hl 0 rfl) ?_
            refine lv_iconst (v := nI 0) hx hb dXM_get_43 (by decide) ?_
            refine va_put (D := (dC, dI)) (ci := 3) (v := .int (nI 0)) (ty := .int) (C := "ParityArrayModel") (T := TXM) (N := 9) hx hb hts (fun w h => List.mem_cons_of_mem _ (inXM w h)) tyXM tyXM_ok nmXM hown hK hP hD hS 0 rfl rfl 8 (by decide) (hts _ (List.mem_cons_of_mem _ tw_399)) (fun _ h9 => h9) rfl (by decide +kernel) rfl rfl (Nat.le_of_ble_eq_true rfl) dXM_get_44 (fun H locs hP hD hS => ?_)
            have hP : va_P (dC, dI) vwCl [(h0, .inr (3, [.ref aB, .int (pz_b (pz_mo x)), .int (pz_o (pz_ms x)), .int (pz_b (pz_mf x)), .int (nI (pz_mr x)), .int (nI (pz_mF x)), .int (nI (pz_mw x)), .int (nI (pz_mc x)), .int (nI 0)])), (aB, .inl (cB, 76800, .inl f))] H := hP
            have hD : va_D A [(h0, .inr (3, [.ref aB, .int (pz_b (pz_mo x)), .int (pz_o (pz_ms x)), .int (pz_b (pz_mf x)), .int (nI (pz_mr x)), .int (nI (pz_mF x)), .int (nI (pz_mw x)), .int (nI (pz_mc x)), .int (nI 0)])), (aB, .inl (cB, 76800, .inl f))] := hD
            refine lv_aload_n hx hb dXM_get_47 rfl (lv_at hl 0 rfl) ?_
            refine lv_iload_n hx hb dXM_get_48 rfl (lv_at hl 1 rfl) ?_
            refine lv_sipush (v := nI 128) hx hb dXM_get_49 (by decide) ?_
            refine lv_imul hx hb dXM_get_52 ?_
            refine lv_topi (nm_r (pk_mul n0 128) ?_)
            refine lv_bipush (v := nI 8) hx hb dXM_get_53 (by decide) ?_
            refine lv_iload_n hx hb dXM_get_55 rfl (lv_at hl 2 rfl) ?_
            refine lv_imul hx hb dXM_get_56 ?_
            refine lv_topi (nm_r (pk_mul 8 i0) ?_)
            refine lv_iadd hx hb dXM_get_57 ?_
            refine lv_topi (nm_r (nI_add (n0 * 128) (8 * i0)) ?_)
            refine lv_topi (nm_r (show nI (n0 * 128 + 8 * i0) = nI (8 * (16 * n0 + i0)) from congrArg nI (by omega)) ?_)
            refine va_calll (va_runV (As := [.int (nI (8 * (16 * n0 + i0)))]) (rest := []) ⟨hx, hb, hml, hown, hts⟩ (c_XM_read l dC dI h0 aB cB f x 0 (16 * n0 + i0) (by omega) hBy) (cwV 1 hts (pz_gc (List.mem_cons_of_mem _ tw_431) rfl (pz_gc (List.mem_cons_of_mem _ tw_433) rfl (pz_gc (List.mem_cons_of_mem _ ts_10) rfl (pz_gc (List.mem_cons_of_mem _ tw_4) rfl (pz_gi tcXM_read))))) rfl rfl rfl (by decide +kernel) ⟨Nat.le_of_ble_eq_true rfl, Nat.le_of_ble_eq_true rfl⟩) (pz_preV (va_recv hK hP (q0 := 0) rfl rfl) hP hK) rfl rfl hl.1 rfl (lv_room (Nat.le_of_ble_eq_true rfl)) dXM_get_58 ⟨Nat.zero_le _, Nat.zero_le _⟩) hS (fun q _ h => h.elim) (fun q h => h.elim) (fun r u t H locs ht hvm hw _ hz hk9 hS => ?_)
            have hP := pz_keep hP hk9
            clear hk9 hz ht hvm
            subst hw
            exact W.lret (v := pz_mM x (16 * n0 + i0)) hx hb hr (fun t ht hW => ⟨⟨_, (x, 0, f), rfl, ⟨by unfold pz_gG; rw [if_neg (by rw [hon]; decide), if_neg (by rw [pz_isL_nI hn0 hi0]; decide), nI_clamp (by omega), nI_clamp (by omega)], rfl, rfl⟩, by rw [ht]; exact hP, va_K.moved hW.alike hK, hAe ▸ hD⟩, hS.F ht⟩) hS.2.2 dXM_get_61
          · have hL := show pz_isL n i = false from decide_eq_false (fun h9 => Int32.not_lt.mpr (Int32.not_lt.mp hc) h9.2.2.2)
            refine lv_aload_n hx hb dXM_get_35 rfl (lv_at hl 0 rfl) ?_
            refine lv_iconst (v := nI 2) hx hb dXM_get_36 (by decide) ?_
            have hPc := hP
            have hDc := hD
            have hFc := va_free (wc := [(h0, .inr (3, [.ref aB, .int (pz_b (pz_mo x)), .int (pz_o (pz_ms x)), .int (pz_b (pz_mf x)), .int (nI (pz_mr x)), .int (nI (pz_mF x)), .int (nI (pz_mw x)), .int (nI (pz_mc x)), .int (nI th)])), (aB, .inl (cB, 76800, .inl f))]) hD hS hA [0, 1] rfl
            refine va_calli (va_runV (As := [.int (nI 2)]) (rest := []) ⟨hx, hb, hml, hown, hts⟩ (c_XM_fails l dC dI _ h0 aB cB f x th 2) (cwV 1 hts (pz_gc (List.mem_cons_of_mem _ tw_427) rfl (pz_gc (List.mem_cons_of_mem _ tw_429) rfl (pz_gc (List.mem_cons_of_mem _ ts_9) rfl (pz_gc (List.mem_cons_of_mem _ tw_4) rfl (pz_gi tcXM_fails))))) rfl rfl rfl (by decide +kernel) ⟨Nat.le_of_ble_eq_true rfl, Nat.le_of_ble_eq_true rfl⟩) (pz_preVw (va_recv hK hPc (q0 := 0) rfl rfl) hPc hK hDc) rfl rfl hl.1 rfl (lv_room (Nat.le_of_ble_eq_true rfl)) dXM_get_37 ⟨Nat.zero_le _, Nat.zero_le _⟩) hS (fun q _ h => hFc q h) hFc (fun r u t H1 locs ht hvm hw hB hz hk1 hS => ?_)
            obtain ⟨hP1, hK1, hD1⟩ := hB
            rw [ht] at hP1
            obtain ⟨rfl, rfl⟩ := hw
            obtain ⟨hP, hD⟩ := va_join (wr := []) hP hD [0, 1] [] rfl rfl (by decide) (by decide) hk1 hFc hP1 hD1
            clear hPc hDc hFc hP1 hD1 hK1 hk1 hz ht hvm
            generalize H1 = H at hP hS ⊢
            have hP : va_P (dC, dI) vwCl [(h0, .inr (3, [.ref aB, .int (pz_b (pz_mo x)), .int (pz_o (pz_ms x)), .int (pz_b (pz_mf x)), .int (nI (pz_mr x)), .int (nI (pz_mF x)), .int (nI (pz_mw x)), .int (nI (pz_mc x)), .int (nI 2)])), (aB, .inl (cB, 76800, .inl f))] H := hP
            have hD : va_D A [(h0, .inr (3, [.ref aB, .int (pz_b (pz_mo x)), .int (pz_o (pz_ms x)), .int (pz_b (pz_mf x)), .int (nI (pz_mr x)), .int (nI (pz_mF x)), .int (nI (pz_mw x)), .int (nI (pz_mc x)), .int (nI 2)])), (aB, .inl (cB, 76800, .inl f))] := hD
            refine lv_i2l (v := 0) hx hb dXM_get_40 (by decide) ?_
            exact W.lret (v := 0) hx hb hr (fun t ht hW => ⟨⟨_, (x, 2, f), rfl, ⟨by unfold pz_gG; rw [if_neg (by rw [hon]; decide), if_pos hL], rfl, rfl⟩, by rw [ht]; exact hP, va_K.moved hW.alike hK, hAe ▸ hD⟩, hS.F ht⟩) hS.2.2 dXM_get_41
  · have hc : (pz_mo x) = false := pz_b0.mp hc
    refine lv_aload_n hx hb dXM_get_7 rfl (lv_at hl 0 rfl) ?_
    refine lv_iconst (v := nI 1) hx hb dXM_get_8 (by decide) ?_
    have hPc := hP
    have hDc := hD
    have hFc := va_free (wc := [(h0, .inr (3, [.ref aB, .int (pz_b (pz_mo x)), .int (pz_o (pz_ms x)), .int (pz_b (pz_mf x)), .int (nI (pz_mr x)), .int (nI (pz_mF x)), .int (nI (pz_mw x)), .int (nI (pz_mc x)), .int (nI th)])), (aB, .inl (cB, 76800, .inl f))]) hD hS hA [0, 1] rfl
    refine va_calli (va_runV (As := [.int (nI 1)]) (rest := []) ⟨hx, hb, hml, hown, hts⟩ (c_XM_fails l dC dI _ h0 aB cB f x th 1) (cwV 1 hts (pz_gc (List.mem_cons_of_mem _ tw_427) rfl (pz_gc (List.mem_cons_of_mem _ tw_429) rfl (pz_gc (List.mem_cons_of_mem _ ts_9) rfl (pz_gc (List.mem_cons_of_mem _ tw_4) rfl (pz_gi tcXM_fails))))) rfl rfl rfl (by decide +kernel) ⟨Nat.le_of_ble_eq_true rfl, Nat.le_of_ble_eq_true rfl⟩) (pz_preVw (va_recv hK hPc (q0 := 0) rfl rfl) hPc hK hDc) rfl rfl hl.1 rfl (lv_room (Nat.le_of_ble_eq_true rfl)) dXM_get_9 ⟨Nat.zero_le _, Nat.zero_le _⟩) hS (fun q _ h => hFc q h) hFc (fun r u t H1 locs ht hvm hw hB hz hk1 hS => ?_)
    obtain ⟨hP1, hK1, hD1⟩ := hB
    rw [ht] at hP1
    obtain ⟨rfl, rfl⟩ := hw
    obtain ⟨hP, hD⟩ := va_join (wr := []) hP hD [0, 1] [] rfl rfl (by decide) (by decide) hk1 hFc hP1 hD1
    clear hPc hDc hFc hP1 hD1 hK1 hk1 hz ht hvm
    generalize H1 = H at hP hS ⊢
    have hP : va_P (dC, dI) vwCl [(h0, .inr (3, [.ref aB, .int (pz_b (pz_mo x)), .int (pz_o (pz_ms x)), .int (pz_b (pz_mf x)), .int (nI (pz_mr x)), .int (nI (pz_mF x)), .int (nI (pz_mw x)), .int (nI (pz_mc x)), .int (nI 1)])), (aB, .inl (cB, 76800, .inl f))] H := hP
    have hD : va_D A [(h0, .inr (3, [.ref aB, .int (pz_b (pz_mo x)), .int (pz_o (pz_ms x)), .int (pz_b (pz_mf x)), .int (nI (pz_mr x)), .int (nI (pz_mF x)), .int (nI (pz_mw x)), .int (nI (pz_mc x)), .int (nI 1)])), (aB, .inl (cB, 76800, .inl f))] := hD
    refine lv_i2l (v := 0) hx hb dXM_get_12 (by decide) ?_
    exact W.lret (v := 0) hx hb hr (fun t ht hW => ⟨⟨_, (x, 1, f), rfl, ⟨by unfold pz_gG; rw [if_pos hc], rfl, rfl⟩, by rw [ht]; exact hP, va_K.moved hW.alike hK, hAe ▸ hD⟩, hS.F ht⟩) hS.2.2 dXM_get_13

set_option maxHeartbeats 4000000 in
set_option maxRecDepth 100000 in
theorem c_XM_set (l : Launch) (dC : Nat → ClassId) (dI : Nat → Nat → Nat) (sz : Nat) (h0 aB : Nat) (cB : ClassId) (f : Nat → Int32) (x : pz_Mu) (th : Nat) (n i : Int32) (w0 : Int64) (hm1 : pz_mr x ≤ 150) (hm2 : pz_mF x ≤ 2) (hm3 : pz_mw x ≤ 10) (hm4 : pz_mc x ≤ 200) (hm5 : ∀ e, pz_ms x = some e → e < 5) (hth : th < 10) (hBy : pz_By f (pz_mM x)) : Met l yXM_set wsXM_set ({ frames := 2, cells := 0, slots := 0, locals := 45 }) (va_Pc [.ref h0, .int n, .int i, .long w0] (fun U => U.heap.size = sz ∧ va_P (dC, dI) vwCl (pz_MW h0 aB cB f x th) U.heap ∧ va_K (dC, dI) vwCl [(cB, .byte)] U ∧ va_D (fun _ => True) (pz_MW h0 aB cB f x th))) (va_Ql (fun (r : Int64) (u : pz_Mu × Nat × (Nat → Int32)) => (r, u.1, u.2.1) = pz_gS x n i w0 ∧ pz_By u.2.2 (pz_mM u.1)) (fun u t => va_P (dC, dI) vwCl (pz_MW h0 aB cB u.2.2 u.1 u.2.1) t.heap ∧ va_K (dC, dI) vwCl [(cB, .byte)] t ∧ va_D (va_A (pz_MW h0 aB cB f x th) sz) (pz_MW h0 aB cB u.2.2 u.1 u.2.1)) (va_A (pz_MW h0 aB cB f x th) sz)) 0 0 (va_A (pz_MW h0 aB cB f x th) sz) := by
  refine Met.ofW (cc := cXM_set) (maxL := 11) (ret := (some .long)) (by decide) rfl ?_
  intro p e s m args below meth c s₁ B hml hv
  obtain ⟨rfl, hsz, hP, hK, hD0⟩ := hv
  have hx := B.exec
  have hb := B.bytes
  have hr := B.returns
  have hts := atoms_spec (ws := wsXM_set) B.pre
  have hown : s.vm.findClass "ParityArrayModel" = some m.cls := findClass_of_methodNamed B.named
  have hlocks := B.notSynchronized
  subst hsz
  have hD := hD0.self (sz := s.heap.size)
  generalize hAe : va_A (pz_MW h0 aB cB f x th) s.heap.size = A at hD ⊢
  have hA : ∀ q : Nat, s.heap.size ≤ q → A q := fun q h => by rw [← hAe]; exact Or.inr h
  have hS : va_S A s.heap s.heap [] := va_S.rf
  have hl := lv_entry ([.ref h0, .int n, .int i, .long w0]) (n := 11) (Nat.le_of_ble_eq_true rfl)
  rw [lg_entry_eq]
  generalize (lg_sl ([.ref h0, .int n, .int i, .long w0]) ++ List.replicate (11 - (lg_sl ([.ref h0, .int n, .int i, .long w0])).length) Slot.unset).toArray = ls at hl ⊢
  have hl : lv_has ls 11 [(0, .ref h0), (1, .int n), (2, .int i), (3, .long w0)] := hl
  have hP : va_P (dC, dI) vwCl [(h0, .inr (3, [.ref aB, .int (pz_b (pz_mo x)), .int (pz_o (pz_ms x)), .int (pz_b (pz_mf x)), .int (nI (pz_mr x)), .int (nI (pz_mF x)), .int (nI (pz_mw x)), .int (nI (pz_mc x)), .int (nI th)])), (aB, .inl (cB, 76800, .inl f))] s.heap := hP
  have hD : va_D A [(h0, .inr (3, [.ref aB, .int (pz_b (pz_mo x)), .int (pz_o (pz_ms x)), .int (pz_b (pz_mf x)), .int (nI (pz_mr x)), .int (nI (pz_mF x)), .int (nI (pz_mw x)), .int (nI (pz_mc x)), .int (nI th)])), (aB, .inl (cB, 76800, .inl f))] := hD
  refine lv_aload_n hx hb dXM_set_0 rfl (lv_at hl 0 rfl) ?_
  refine va_get (D := (dC, dI)) (ci := 3) (v := .int (pz_b (pz_mo x))) (C := "ParityArrayModel") (T := TXM) (N := 9) hx hb hts (fun w h => List.mem_cons_of_mem _ (inXM w h)) hown hK hP 0 rfl rfl 1 (by decide) (hts _ (List.mem_cons_of_mem _ tw_392)) (fun _ h9 => h9) rfl dXM_set_1 ?_
  refine lv_if_ne (tgt := 14) hx hb dXM_set_4 (by decide) (fun hc => ?_) (fun hc => ?_)
  · have hc : (pz_mo x) = true := pz_bn hc
    have hon := hc
    refine lv_iload_n hx hb dXM_set_14 rfl (lv_at hl 1 rfl) ?_
    refine lv_if_lt (tgt := 35) hx hb dXM_set_15 (by decide) (fun hc => ?_) (fun hc => ?_)
    · have hL := show pz_isL n i = false from decide_eq_false (fun h9 => Int32.not_le.mpr hc h9.1)
      refine lv_aload_n hx hb dXM_set_35 rfl (lv_at hl 0 rfl) ?_
      refine lv_iconst (v := nI 2) hx hb dXM_set_36 (by decide) ?_
      have hPc := hP
      have hDc := hD
      have hFc := va_free (wc := [(h0, .inr (3, [.ref aB, .int (pz_b (pz_mo x)), .int (pz_o (pz_ms x)), .int (pz_b (pz_mf x)), .int (nI (pz_mr x)), .int (nI (pz_mF x)), .int (nI (pz_mw x)), .int (nI (pz_mc x)), .int (nI th)])), (aB, .inl (cB, 76800, .inl f))]) hD hS hA [0, 1] rfl
      refine va_calli (va_runV (As := [.int (nI 2)]) (rest := []) ⟨hx, hb, hml, hown, hts⟩ (c_XM_fails l dC dI _ h0 aB cB f x th 2) (cwV 1 hts (pz_gc (List.mem_cons_of_mem _ tw_427) rfl (pz_gc (List.mem_cons_of_mem _ tw_429) rfl (pz_gc (List.mem_cons_of_mem _ ts_9) rfl (pz_gc (List.mem_cons_of_mem _ tw_4) rfl (pz_gi tcXM_fails))))) rfl rfl rfl (by decide +kernel) ⟨Nat.le_of_ble_eq_true rfl, Nat.le_of_ble_eq_true rfl⟩) (pz_preVw (va_recv hK hPc (q0 := 0) rfl rfl) hPc hK hDc) rfl rfl hl.1 rfl (lv_room (Nat.le_of_ble_eq_true rfl)) dXM_set_37 ⟨Nat.zero_le _, Nat.zero_le _⟩) hS (fun q _ h => hFc q h) hFc (fun r u t H1 locs ht hvm hw hB hz hk1 hS => ?_)
      obtain ⟨hP1, hK1, hD1⟩ := hB
      rw [ht] at hP1
      obtain ⟨rfl, rfl⟩ := hw
      obtain ⟨hP, hD⟩ := va_join (wr := []) hP hD [0, 1] [] rfl rfl (by decide) (by decide) hk1 hFc hP1 hD1
      clear hPc hDc hFc hP1 hD1 hK1 hk1 hz ht hvm
      generalize H1 = H at hP hS ⊢
      have hP : va_P (dC, dI) vwCl [(h0, .inr (3, [.ref aB, .int (pz_b (pz_mo x)), .int (pz_o (pz_ms x)), .int (pz_b (pz_mf x)), .int (nI (pz_mr x)), .int (nI (pz_mF x)), .int (nI (pz_mw x)), .int (nI (pz_mc x)), .int (nI 2)])), (aB, .inl (cB, 76800, .inl f))] H := hP
      have hD : va_D A [(h0, .inr (3, [.ref aB, .int (pz_b (pz_mo x)), .int (pz_o (pz_ms x)), .int (pz_b (pz_mf x)), .int (nI (pz_mr x)), .int (nI (pz_mF x)), .int (nI (pz_mw x)), .int (nI (pz_mc x)), .int (nI 2)])), (aB, .inl (cB, 76800, .inl f))] := hD
      refine lv_i2l (v := 0) hx hb dXM_set_40 (by decide) ?_
      exact W.lret (v := 0) hx hb hr (fun t ht hW => ⟨⟨_, (x, 2, f), rfl, ⟨by unfold pz_gS; rw [if_neg (by rw [hon]; decide), if_pos hL], hBy⟩, by rw [ht]; exact hP, va_K.moved hW.alike hK, hAe ▸ hD⟩, hS.F ht⟩) hS.2.2 dXM_set_41
    · have h1 := hc
      refine lv_iload_n hx hb dXM_set_18 rfl (lv_at hl 1 rfl) ?_
      refine lv_sipush (v := nI 600) hx hb dXM_set_19 (by decide) ?_
      refine lv_icmp_ge (tgt := 35) hx hb dXM_set_22 (by decide) (fun hc => ?_) (fun hc => ?_)
      · have hL := show pz_isL n i = false from decide_eq_false (fun h9 => Int32.not_lt.mpr hc h9.2.1)
        refine lv_aload_n hx hb dXM_set_35 rfl (lv_at hl 0 rfl) ?_
        refine lv_iconst (v := nI 2) hx hb dXM_set_36 (by decide) ?_
        have hPc := hP
        have hDc := hD
        have hFc := va_free (wc := [(h0, .inr (3, [.ref aB, .int (pz_b (pz_mo x)), .int (pz_o (pz_ms x)), .int (pz_b (pz_mf x)), .int (nI (pz_mr x)), .int (nI (pz_mF x)), .int (nI (pz_mw x)), .int (nI (pz_mc x)), .int (nI th)])), (aB, .inl (cB, 76800, .inl f))]) hD hS hA [0, 1] rfl
        refine va_calli (va_runV (As := [.int (nI 2)]) (rest := []) ⟨hx, hb, hml, hown, hts⟩ (c_XM_fails l dC dI _ h0 aB cB f x th 2) (cwV 1 hts (pz_gc (List.mem_cons_of_mem _ tw_427) rfl (pz_gc (List.mem_cons_of_mem _ tw_429) rfl (pz_gc (List.mem_cons_of_mem _ ts_9) rfl (pz_gc (List.mem_cons_of_mem _ tw_4) rfl (pz_gi tcXM_fails))))) rfl rfl rfl (by decide +kernel) ⟨Nat.le_of_ble_eq_true rfl, Nat.le_of_ble_eq_true rfl⟩) (pz_preVw (va_recv hK hPc (q0 := 0) rfl rfl) hPc hK hDc) rfl rfl hl.1 rfl (lv_room (Nat.le_of_ble_eq_true rfl)) dXM_set_37 ⟨Nat.zero_le _, Nat.zero_le _⟩) hS (fun q _ h => hFc q h) hFc (fun r u t H1 locs ht hvm hw hB hz hk1 hS => ?_)
        obtain ⟨hP1, hK1, hD1⟩ := hB
        rw [ht] at hP1
        obtain ⟨rfl, rfl⟩ := hw
        obtain ⟨hP, hD⟩ := va_join (wr := []) hP hD [0, 1] [] rfl rfl (by decide) (by decide) hk1 hFc hP1 hD1
        clear hPc hDc hFc hP1 hD1 hK1 hk1 hz ht hvm
        generalize H1 = H at hP hS ⊢
        have hP : va_P (dC, dI) vwCl [(h0, .inr (3, [.ref aB, .int (pz_b (pz_mo x)), .int (pz_o (pz_ms x)), .int (pz_b (pz_mf x)), .int (nI (pz_mr x)), .int (nI (pz_mF x)), .int (nI (pz_mw x)), .int (nI (pz_mc x)), .int (nI 2)])), (aB, .inl (cB, 76800, .inl f))] H := hP
        have hD : va_D A [(h0, .inr (3, [.ref aB, .int (pz_b (pz_mo x)), .int (pz_o (pz_ms x)), .int (pz_b (pz_mf x)), .int (nI (pz_mr x)), .int (nI (pz_mF x)), .int (nI (pz_mw x)), .int (nI (pz_mc x)), .int (nI 2)])), (aB, .inl (cB, 76800, .inl f))] := hD
        refine lv_i2l (v := 0) hx hb dXM_set_40 (by decide) ?_
        exact W.lret (v := 0) hx hb hr (fun t ht hW => ⟨⟨_, (x, 2, f), rfl, ⟨by unfold pz_gS; rw [if_neg (by rw [hon]; decide), if_pos hL], hBy⟩, by rw [ht]; exact hP, va_K.moved hW.alike hK, hAe ▸ hD⟩, hS.F ht⟩) hS.2.2 dXM_set_41
      · have h2 := hc
        refine lv_iload_n hx hb dXM_set_25 rfl (lv_at hl 2 rfl) ?_
        refine lv_if_lt (tgt := 35) hx hb dXM_set_26 (by decide) (fun hc => ?_) (fun hc => ?_)
        · have hL := show pz_isL n i = false from decide_eq_false (fun h9 => Int32.not_le.mpr hc h9.2.2.1)
          refine lv_aload_n hx hb dXM_set_35 rfl (lv_at hl 0 rfl) ?_
          refine lv_iconst (v := nI 2) hx hb dXM_set_36 (by decide) ?_
          have hPc := hP
          have hDc := hD
          have hFc := va_free (wc := [(h0, .inr (3, [.ref aB, .int (pz_b (pz_mo x)), .int (pz_o (pz_ms x)), .int (pz_b (pz_mf x)), .int (nI (pz_mr x)), .int (nI (pz_mF x)), .int (nI (pz_mw x)), .int (nI (pz_mc x)), .int (nI th)])), (aB, .inl (cB, 76800, .inl f))]) hD hS hA [0, 1] rfl
          refine va_calli (va_runV (As := [.int (nI 2)]) (rest := []) ⟨hx, hb, hml, hown, hts⟩ (c_XM_fails l dC dI _ h0 aB cB f x th 2) (cwV 1 hts (pz_gc (List.mem_cons_of_mem _ tw_427) rfl (pz_gc (List.mem_cons_of_mem _ tw_429) rfl (pz_gc (List.mem_cons_of_mem _ ts_9) rfl (pz_gc (List.mem_cons_of_mem _ tw_4) rfl (pz_gi tcXM_fails))))) rfl rfl rfl (by decide +kernel) ⟨Nat.le_of_ble_eq_true rfl, Nat.le_of_ble_eq_true rfl⟩) (pz_preVw (va_recv hK hPc (q0 := 0) rfl rfl) hPc hK hDc) rfl rfl hl.1 rfl (lv_room (Nat.le_of_ble_eq_true rfl)) dXM_set_37 ⟨Nat.zero_le _, Nat.zero_le _⟩) hS (fun q _ h => hFc q h) hFc (fun r u t H1 locs ht hvm hw hB hz hk1 hS => ?_)
          obtain ⟨hP1, hK1, hD1⟩ := hB
          rw [ht] at hP1
          obtain ⟨rfl, rfl⟩ := hw
          obtain ⟨hP, hD⟩ := va_join (wr := []) hP hD [0, 1] [] rfl rfl (by decide) (by decide) hk1 hFc hP1 hD1
          clear hPc hDc hFc hP1 hD1 hK1 hk1 hz ht hvm
          generalize H1 = H at hP hS ⊢
          have hP : va_P (dC, dI) vwCl [(h0, .inr (3, [.ref aB, .int (pz_b (pz_mo x)), .int (pz_o (pz_ms x)), .int (pz_b (pz_mf x)), .int (nI (pz_mr x)), .int (nI (pz_mF x)), .int (nI (pz_mw x)), .int (nI (pz_mc x)), .int (nI 2)])), (aB, .inl (cB, 76800, .inl f))] H := hP
          have hD : va_D A [(h0, .inr (3, [.ref aB, .int (pz_b (pz_mo x)), .int (pz_o (pz_ms x)), .int (pz_b (pz_mf x)), .int (nI (pz_mr x)), .int (nI (pz_mF x)), .int (nI (pz_mw x)), .int (nI (pz_mc x)), .int (nI 2)])), (aB, .inl (cB, 76800, .inl f))] := hD
          refine lv_i2l (v := 0) hx hb dXM_set_40 (by decide) ?_
          exact W.lret (v := 0) hx hb hr (fun t ht hW => ⟨⟨_, (x, 2, f), rfl, ⟨by unfold pz_gS; rw [if_neg (by rw [hon]; decide), if_pos hL], hBy⟩, by rw [ht]; exact hP, va_K.moved hW.alike hK, hAe ▸ hD⟩, hS.F ht⟩) hS.2.2 dXM_set_41
        · have h3 := hc
          refine lv_iload_n hx hb dXM_set_29 rfl (lv_at hl 2 rfl) ?_
          refine lv_bipush (v := nI 16) hx hb dXM_set_30 (by decide) ?_
          refine lv_icmp_lt (tgt := 42) hx hb dXM_set_32 (by decide) (fun hc => ?_) (fun hc => ?_)
          · obtain ⟨n0, i0, hn0, hi0, rfl, rfl⟩ := pz_isL_of (decide_eq_true ⟨Int32.not_lt.mp h1, Int32.not_le.mp h2, Int32.not_lt.mp h3, hc⟩ : pz_isL n i = true)
            refine lv_iload_n hx hb dXM_set_42 rfl (lv_at hl 1 rfl) ?_
            refine lv_sipush (v := nI 128) hx hb dXM_set_43 (by decide) ?_
            refine lv_imul hx hb dXM_set_46 ?_
            refine lv_topi (nm_r (pk_mul n0 128) ?_)
            refine lv_bipush (v := nI 8) hx hb dXM_set_47 (by decide) ?_
            refine lv_iload_n hx hb dXM_set_49 rfl (lv_at hl 2 rfl) ?_
            refine lv_imul hx hb dXM_set_50 ?_
            refine lv_topi (nm_r (pk_mul 8 i0) ?_)
            refine lv_iadd hx hb dXM_set_51 ?_
            refine lv_topi (nm_r (nI_add (n0 * 128) (8 * i0)) ?_)
            refine lv_topi (nm_r (show nI (n0 * 128 + 8 * i0) = nI (8 * (16 * n0 + i0)) from congrArg nI (by omega)) ?_)
            refine lv_istore hx hb dXM_set_52 hl (by decide) rfl (fun ls hl => ?_)
            have hl : lv_has ls 11 [(5, .int (nI (8 * (16 * n0 + i0)))), (0, .ref h0), (1, .int (nI n0)), (2, .int (nI i0)), (3, .long w0)] := hl
            refine lv_aload_n hx hb dXM_set_54 rfl (lv_at hl 1 rfl) ?_
            refine lv_iload hx hb dXM_set_55 (lv_at hl 0 rfl) ?_
            refine va_calll (va_runV (As := [.int (nI (8 * (16 * n0 + i0)))]) (rest := []) ⟨hx, hb, hml, hown, hts⟩ (c_XM_read l dC dI h0 aB cB f x th (16 * n0 + i0) (by omega) hBy) (cwV 1 hts (pz_gc (List.mem_cons_of_mem _ tw_431) rfl (pz_gc (List.mem_cons_of_mem _ tw_433) rfl (pz_gc (List.mem_cons_of_mem _ ts_10) rfl (pz_gc (List.mem_cons_of_mem _ tw_4) rfl (pz_gi tcXM_read))))) rfl rfl rfl (by decide +kernel) ⟨Nat.le_of_ble_eq_true rfl, Nat.le_of_ble_eq_true rfl⟩) (pz_preV (va_recv hK hP (q0 := 0) rfl rfl) hP hK) rfl rfl hl.1 rfl (lv_room (Nat.le_of_ble_eq_true rfl)) dXM_set_57 ⟨Nat.zero_le _, Nat.zero_le _⟩) hS (fun q _ h => h.elim) (fun q h => h.elim) (fun r u t H locs ht hvm hw _ hz hk9 hS => ?_)
            have hP := pz_keep hP hk9
            clear hk9 hz ht hvm
            subst hw
            refine lv_lstore hx hb dXM_set_60 hl (by decide) rfl (fun ls hl => ?_)
            have hl : lv_has ls 11 [(6, .long (pz_mM x (16 * n0 + i0))), (5, .int (nI (8 * (16 * n0 + i0)))), (0, .ref h0), (1, .int (nI n0)), (2, .int (nI i0)), (3, .long w0)] := hl
            refine lv_aload_n hx hb dXM_set_62 rfl (lv_at hl 2 rfl) ?_
            refine va_get (D := (dC, dI)) (ci := 3) (v := .int (nI (pz_mF x))) (C := "ParityArrayModel") (T := TXM) (N := 9) hx hb hts (fun w h => List.mem_cons_of_mem _ (inXM w h)) hown hK hP 0 rfl rfl 5 (by decide) (hts _ (List.mem_cons_of_mem _ tw_396)) (fun _ h9 => h9) rfl dXM_set_63 ?_
            refine lv_iconst (v := nI 1) hx hb dXM_set_66 (by decide) ?_
            refine lv_icmp_ne (tgt := 74) hx hb dXM_set_67 (by decide) (fun hc => ?_) (fun hc => ?_)
            · have hc : ¬ (pz_mF x) = 1 := fun h9 => hc ((nI_eq (a := (pz_mF x)) (b := 1) (by omega) (by omega)).mpr h9)
              have hfl0 := hc
              refine lv_iconst (v := nI 0) hx hb dXM_set_74 (by decide) ?_
              refine lv_istore hx hb dXM_set_75 hl (by decide) rfl (fun ls hl => ?_)
              have hl : lv_has ls 11 [(8, .int (nI 0)), (6, .long (pz_mM x (16 * n0 + i0))), (5, .int (nI (8 * (16 * n0 + i0)))), (0, .ref h0), (1, .int (nI n0)), (2, .int (nI i0)), (3, .long w0)] := hl
              refine lv_iload hx hb dXM_set_77 (lv_at hl 0 rfl) ?_
              refine lv_if_eq (tgt := 90) hx hb dXM_set_79 (by decide) (fun _ => ?_) (fun hc => absurd hc (by decide))
              refine lv_sipush (v := nI 128) hx hb dXM_set_90 (by decide) ?_
              refine lv_istore hx hb dXM_set_93 hl (by decide) rfl (fun ls hl => ?_)
              have hl : lv_has ls 11 [(9, .int (nI 128)), (8, .int (nI 0)), (6, .long (pz_mM x (16 * n0 + i0))), (5, .int (nI (8 * (16 * n0 + i0)))), (0, .ref h0), (1, .int (nI n0)), (2, .int (nI i0)), (3, .long w0)] := hl
              refine lv_iconst (v := nI 0) hx hb dXM_set_95 (by decide) ?_
              refine lv_istore hx hb dXM_set_96 hl (by decide) rfl (fun ls hl => ?_)
              have hl : lv_has ls 11 [(10, .int (nI 0)), (9, .int (nI 128)), (8, .int (nI 0)), (6, .long (pz_mM x (16 * n0 + i0))), (5, .int (nI (8 * (16 * n0 + i0)))), (0, .ref h0), (1, .int (nI n0)), (2, .int (nI i0)), (3, .long w0)] := hl
              have hfl : ¬ pz_mF x = 1 := hfl0
              refine pz_loop (fun _ => 0) (fun _ => 0) 8 (fun k ls H locs => ∃ f1 : Nat → Int32, lv_has ls 11 [(10, .int (nI k)), (9, .int (nI 128)), (8, .int (nI 0)), (6, .long (pz_mM x (16 * n0 + i0))), (5, .int (nI (8 * (16 * n0 + i0)))), (0, .ref h0), (1, .int (nI n0)), (2, .int (nI i0)), (3, .long w0)] ∧ va_P (dC, dI) vwCl [(h0, .inr (3, [.ref aB, .int (pz_b (pz_mo x)), .int (pz_o (pz_ms x)), .int (pz_b (pz_mf x)), .int (nI (pz_mr x)), .int (nI (pz_mF x)), .int (nI (pz_mw x)), .int (nI (pz_mc x)), .int (nI th)])), (aB, .inl (cB, 76800, .inl f1))] H ∧ va_D A [(h0, .inr (3, [.ref aB, .int (pz_b (pz_mo x)), .int (pz_o (pz_ms x)), .int (pz_b (pz_mf x)), .int (nI (pz_mr x)), .int (nI (pz_mF x)), .int (nI (pz_mw x)), .int (nI (pz_mc x)), .int (nI th)])), (aB, .inl (cB, 76800, .inl f1))] ∧ va_S A s.heap H locs ∧ pz_Bk f1 (pz_mM x) (16 * n0 + i0) 128 i0 w0 k) ?_ ?_ 8 0 (by omega) _ _ _ ⟨f, hl, hP, hD, hS, pz_Bk_0 hBy _ _ _ _⟩
              · intro k ls H locs hk hI ih
                obtain ⟨f1, hl, hP, hD, hS, hBk⟩ := hI
                refine lv_iload hx hb dXM_set_98 (lv_at hl 0 rfl) ?_
                refine lv_bipush (v := nI 8) hx hb dXM_set_100 (by decide) ?_
                refine lv_icmp_ge (tgt := 145) hx hb dXM_set_102 (by decide) (fun hc => absurd hc (nI_ge hk (by decide))) (fun _ => ?_)
                refine lv_bipush (v := nI 8) hx hb dXM_set_105 (by decide) ?_
                refine lv_iload_n hx hb dXM_set_107 rfl (lv_at hl 7 rfl) ?_
                refine lv_imul hx hb dXM_set_108 ?_
                refine lv_topi (nm_r (pk_mul 8 i0) ?_)
                refine lv_iload hx hb dXM_set_109 (lv_at hl 0 rfl) ?_
                refine lv_iadd hx hb dXM_set_111 ?_
                refine lv_topi (nm_r (nI_add (8 * i0) k) ?_)
                refine lv_iload hx hb dXM_set_112 (lv_at hl 1 rfl) ?_
                refine lv_icmp_ge (tgt := 139) hx hb dXM_set_114 (by decide) (fun hc => ?_) (fun hc => ?_)
                · have hc : 128 ≤ ((8 * i0) + k) := (nI_leI (a := 128) (b := ((8 * i0) + k)) (by omega) (by omega)).mp hc
                  refine lv_iinc (k := 0) (v := nI (k + 1)) hx hb dXM_set_139 hl rfl (by rw [nI_succ]; rfl) (by decide) rfl (fun ls hl => ?_)
                  have hl : lv_has ls 11 [(10, .int (nI (k + 1))), (9, .int (nI 128)), (8, .int (nI 0)), (6, .long (pz_mM x (16 * n0 + i0))), (5, .int (nI (8 * (16 * n0 + i0)))), (0, .ref h0), (1, .int (nI n0)), (2, .int (nI i0)), (3, .long w0)] := hl
                  refine lv_goto (tgt := 98) hx hb dXM_set_142 (by decide) ?_
                  exact ih _ _ _ ⟨_, hl, hP, hD, hS, pz_Bk_skip hBk (by omega)⟩
                · have hc : ¬ 128 ≤ ((8 * i0) + k) := fun h9 => hc ((nI_leI (a := 128) (b := ((8 * i0) + k)) (by omega) (by omega)).mpr h9)
                  refine lv_aload_n hx hb dXM_set_117 rfl (lv_at hl 5 rfl) ?_
                  refine va_get (D := (dC, dI)) (ci := 3) (v := .ref aB) (C := "ParityArrayModel") (T := TXM) (N := 9) hx hb hts (fun w h => List.mem_cons_of_mem _ (inXM w h)) hown hK hP 0 rfl rfl 0 (by decide) (hts _ (List.mem_cons_of_mem _ tw_391)) (fun _ h9 => h9) rfl dXM_set_118 ?_
                  refine lv_iload hx hb dXM_set_121 (lv_at hl 4 rfl) ?_
                  refine lv_iload hx hb dXM_set_123 (lv_at hl 0 rfl) ?_
                  refine lv_iadd hx hb dXM_set_125 ?_
                  refine lv_topi (nm_r (nI_add (8 * (16 * n0 + i0)) k) ?_)
                  refine lv_lload_n hx hb dXM_set_126 rfl (lv_at hl 8 rfl) ?_
                  refine lv_bipush (v := nI 56) hx hb dXM_set_127 (by decide) ?_
                  refine lv_bipush (v := nI 8) hx hb dXM_set_129 (by decide) ?_
                  refine lv_iload hx hb dXM_set_131 (lv_at hl 0 rfl) ?_
                  refine lv_imul hx hb dXM_set_133 ?_
                  refine lv_topi (nm_r (pk_mul 8 k) ?_)
                  refine lv_isub hx hb dXM_set_134 ?_
                  refine lv_topi (nm_r (pk_sub (by omega)) ?_)
                  refine lv_lshr (v := w0 >>> ((nI (56 - 8 * k)).toInt64 &&& 63)) hx hb dXM_set_135 rfl ?_
                  refine lv_l2i (v := (w0 >>> ((nI (56 - 8 * k)).toInt64 &&& 63)).toInt32) hx hb dXM_set_136 rfl ?_
                  refine lv_i2b (v := pz_by w0 k) hx hb dXM_set_137 rfl ?_
                  refine va_bast hx hb hK hP hD hS 1 0 rfl rfl (vp_in_nI (by omega) (by decide)) dXM_set_138 (fun H locs hP hD hS => ?_)
                  rw [nI_clamp (show (8 * (16 * n0 + i0)) + k < 2 ^ 31 by omega), show vp_nar .byte (pz_by w0 k) = pz_by w0 k from pk_vb _] at hP hD
                  have hP : va_P (dC, dI) vwCl [(h0, .inr (3, [.ref aB, .int (pz_b (pz_mo x)), .int (pz_o (pz_ms x)), .int (pz_b (pz_mf x)), .int (nI (pz_mr x)), .int (nI (pz_mF x)), .int (nI (pz_mw x)), .int (nI (pz_mc x)), .int (nI th)])), (aB, .inl (cB, 76800, .inl (upd f1 ((8 * (16 * n0 + i0)) + k) (pz_by w0 k))))] H := hP
                  have hD : va_D A [(h0, .inr (3, [.ref aB, .int (pz_b (pz_mo x)), .int (pz_o (pz_ms x)), .int (pz_b (pz_mf x)), .int (nI (pz_mr x)), .int (nI (pz_mF x)), .int (nI (pz_mw x)), .int (nI (pz_mc x)), .int (nI th)])), (aB, .inl (cB, 76800, .inl (upd f1 ((8 * (16 * n0 + i0)) + k) (pz_by w0 k))))] := hD
                  refine lv_iinc (k := 0) (v := nI (k + 1)) hx hb dXM_set_139 hl rfl (by rw [nI_succ]; rfl) (by decide) rfl (fun ls hl => ?_)
                  have hl : lv_has ls 11 [(10, .int (nI (k + 1))), (9, .int (nI 128)), (8, .int (nI 0)), (6, .long (pz_mM x (16 * n0 + i0))), (5, .int (nI (8 * (16 * n0 + i0)))), (0, .ref h0), (1, .int (nI n0)), (2, .int (nI i0)), (3, .long w0)] := hl
                  refine lv_goto (tgt := 98) hx hb dXM_set_142 (by decide) ?_
                  exact ih _ _ _ ⟨_, hl, hP, hD, hS, pz_Bk_put hBk hk (by omega)⟩
              · intro ls H locs hI
                obtain ⟨f1, hl, hP, hD, hS, hBk⟩ := hI
                refine lv_iload hx hb dXM_set_98 (lv_at hl 0 rfl) ?_
                refine lv_bipush (v := nI 8) hx hb dXM_set_100 (by decide) ?_
                refine lv_icmp_ge (tgt := 145) hx hb dXM_set_102 (by decide) (fun _ => ?_) (fun hc => absurd hc (fun h9 => h9 (nI_le (Nat.le_refl 8) (by decide))))
                refine lv_aload_n hx hb dXM_set_145 rfl (lv_at hl 5 rfl) ?_
                refine lv_iload hx hb dXM_set_146 (lv_at hl 2 rfl) ?_
                refine lv_if_eq (tgt := 155) hx hb dXM_set_148 (by decide) (fun _ => ?_) (fun hc => absurd hc (by decide))
                refine lv_iconst (v := nI 0) hx hb dXM_set_155 (by decide) ?_
                refine va_put (D := (dC, dI)) (ci := 3) (v := .int (nI 0)) (ty := .int) (C := "ParityArrayModel") (T := TXM) (N := 9) hx hb hts (fun w h => List.mem_cons_of_mem _ (inXM w h)) tyXM tyXM_ok nmXM hown hK hP hD hS 0 rfl rfl 8 (by decide) (hts _ (List.mem_cons_of_mem _ tw_399)) (fun _ h9 => h9) rfl (by decide +kernel) rfl rfl (Nat.le_of_ble_eq_true rfl) dXM_set_156 (fun H locs hP hD hS => ?_)
                have hP : va_P (dC, dI) vwCl [(h0, .inr (3, [.ref aB, .int (pz_b (pz_mo x)), .int (pz_o (pz_ms x)), .int (pz_b (pz_mf x)), .int (nI (pz_mr x)), .int (nI (pz_mF x)), .int (nI (pz_mw x)), .int (nI (pz_mc x)), .int (nI 0)])), (aB, .inl (cB, 76800, .inl f1))] H := hP
                have hD : va_D A [(h0, .inr (3, [.ref aB, .int (pz_b (pz_mo x)), .int (pz_o (pz_ms x)), .int (pz_b (pz_mf x)), .int (nI (pz_mr x)), .int (nI (pz_mF x)), .int (nI (pz_mw x)), .int (nI (pz_mc x)), .int (nI 0)])), (aB, .inl (cB, 76800, .inl f1))] := hD
                refine lv_iload hx hb dXM_set_159 (lv_at hl 2 rfl) ?_
                refine lv_if_ne (tgt := 167) hx hb dXM_set_161 (by decide) (fun hc => absurd hc (by decide)) (fun _ => ?_)
                refine lv_lload hx hb dXM_set_164 (lv_at hl 3 rfl) ?_
                exact W.lret (v := pz_mM x (16 * n0 + i0)) hx hb hr (fun t ht hW => ⟨⟨_, ((vp_updL (pz_mM x) (16 * n0 + i0) (pz_cut 128 i0 w0 (pz_mM x (16 * n0 + i0))), pz_mo x, pz_ms x, pz_mf x, pz_mr x, pz_mF x, pz_mw x, pz_mc x), 0, f1), rfl, ⟨by unfold pz_gS pz_mset; rw [if_neg (by rw [hon]; decide), if_neg (by rw [pz_isL_nI hn0 hi0]; decide), nI_clamp (show n0 < 2 ^ 31 by omega), nI_clamp (show i0 < 2 ^ 31 by omega)]; simp [hfl, hon], pz_Bk_8 hBk⟩, by rw [ht]; exact hP, va_K.moved hW.alike hK, hAe ▸ hD⟩, hS.F ht⟩) hS.2.2 dXM_set_166
            · have hc : (pz_mF x) = 1 := (nI_eq (a := (pz_mF x)) (b := 1) (by omega) (by omega)).mp hc
              have hfl0 := hc
              refine lv_iconst (v := nI 1) hx hb dXM_set_70 (by decide) ?_
              refine lv_goto (tgt := 75) hx hb dXM_set_71 (by decide) ?_
              refine lv_istore hx hb dXM_set_75 hl (by decide) rfl (fun ls hl => ?_)
              have hl : lv_has ls 11 [(8, .int (nI 1)), (6, .long (pz_mM x (16 * n0 + i0))), (5, .int (nI (8 * (16 * n0 + i0)))), (0, .ref h0), (1, .int (nI n0)), (2, .int (nI i0)), (3, .long w0)] := hl
              refine lv_iload hx hb dXM_set_77 (lv_at hl 0 rfl) ?_
              refine lv_if_eq (tgt := 90) hx hb dXM_set_79 (by decide) (fun hc => absurd hc (by decide)) (fun _ => ?_)
              refine lv_aload_n hx hb dXM_set_82 rfl (lv_at hl 3 rfl) ?_
              refine lv_iload_n hx hb dXM_set_83 rfl (lv_at hl 4 rfl) ?_
              refine va_calli (va_runV (As := [.int (nI n0)]) (rest := []) ⟨hx, hb, hml, hown, hts⟩ (c_XM_fresh l dC dI h0 aB cB f x th n0 hm1 hm2 hm3 hm4 hm5 hth hn0) (cwV 1 hts (pz_gc (List.mem_cons_of_mem _ tw_435) rfl (pz_gc (List.mem_cons_of_mem _ tw_437) rfl (pz_gc (List.mem_cons_of_mem _ ts_11) rfl (pz_gc (List.mem_cons_of_mem _ tw_4) rfl (pz_gi tcXM_fresh))))) rfl rfl rfl (by decide +kernel) ⟨Nat.le_of_ble_eq_true rfl, Nat.le_of_ble_eq_true rfl⟩) (pz_preV (va_recv hK hP (q0 := 0) rfl rfl) hP hK) rfl rfl hl.1 rfl (lv_room (Nat.le_of_ble_eq_true rfl)) dXM_set_84 ⟨Nat.zero_le _, Nat.zero_le _⟩) hS (fun q _ h => h.elim) (fun q h => h.elim) (fun r u t H locs ht hvm hw _ hz hk9 hS => ?_)
              have hP := pz_keep hP hk9
              clear hk9 hz ht hvm
              subst hw
              refine lv_goto (tgt := 93) hx hb dXM_set_87 (by decide) ?_
              refine lv_istore hx hb dXM_set_93 hl (by decide) rfl (fun ls hl => ?_)
              have hl : lv_has ls 11 [(9, .int (nI (pz_now x n0))), (8, .int (nI 1)), (6, .long (pz_mM x (16 * n0 + i0))), (5, .int (nI (8 * (16 * n0 + i0)))), (0, .ref h0), (1, .int (nI n0)), (2, .int (nI i0)), (3, .long w0)] := hl
              refine lv_iconst (v := nI 0) hx hb dXM_set_95 (by decide) ?_
              refine lv_istore hx hb dXM_set_96 hl (by decide) rfl (fun ls hl => ?_)
              have hl : lv_has ls 11 [(10, .int (nI 0)), (9, .int (nI (pz_now x n0))), (8, .int (nI 1)), (6, .long (pz_mM x (16 * n0 + i0))), (5, .int (nI (8 * (16 * n0 + i0)))), (0, .ref h0), (1, .int (nI n0)), (2, .int (nI i0)), (3, .long w0)] := hl
              have hnow : pz_now x n0 ≤ 128 := by unfold pz_now pz_nw; (repeat' split) <;> omega
              have hfl :  pz_mF x = 1 := hfl0
              refine pz_loop (fun _ => 0) (fun _ => 0) 8 (fun k ls H locs => ∃ f1 : Nat → Int32, lv_has ls 11 [(10, .int (nI k)), (9, .int (nI (pz_now x n0))), (8, .int (nI 1)), (6, .long (pz_mM x (16 * n0 + i0))), (5, .int (nI (8 * (16 * n0 + i0)))), (0, .ref h0), (1, .int (nI n0)), (2, .int (nI i0)), (3, .long w0)] ∧ va_P (dC, dI) vwCl [(h0, .inr (3, [.ref aB, .int (pz_b (pz_mo x)), .int (pz_o (pz_ms x)), .int (pz_b (pz_mf x)), .int (nI (pz_mr x)), .int (nI (pz_mF x)), .int (nI (pz_mw x)), .int (nI (pz_mc x)), .int (nI th)])), (aB, .inl (cB, 76800, .inl f1))] H ∧ va_D A [(h0, .inr (3, [.ref aB, .int (pz_b (pz_mo x)), .int (pz_o (pz_ms x)), .int (pz_b (pz_mf x)), .int (nI (pz_mr x)), .int (nI (pz_mF x)), .int (nI (pz_mw x)), .int (nI (pz_mc x)), .int (nI th)])), (aB, .inl (cB, 76800, .inl f1))] ∧ va_S A s.heap H locs ∧ pz_Bk f1 (pz_mM x) (16 * n0 + i0) (pz_now x n0) i0 w0 k) ?_ ?_ 8 0 (by omega) _ _ _ ⟨f, hl, hP, hD, hS, pz_Bk_0 hBy _ _ _ _⟩
              · intro k ls H locs hk hI ih
                obtain ⟨f1, hl, hP, hD, hS, hBk⟩ := hI
                refine lv_iload hx hb dXM_set_98 (lv_at hl 0 rfl) ?_
                refine lv_bipush (v := nI 8) hx hb dXM_set_100 (by decide) ?_
                refine lv_icmp_ge (tgt := 145) hx hb dXM_set_102 (by decide) (fun hc => absurd hc (nI_ge hk (by decide))) (fun _ => ?_)
                refine lv_bipush (v := nI 8) hx hb dXM_set_105 (by decide) ?_
                refine lv_iload_n hx hb dXM_set_107 rfl (lv_at hl 7 rfl) ?_
                refine lv_imul hx hb dXM_set_108 ?_
                refine lv_topi (nm_r (pk_mul 8 i0) ?_)
                refine lv_iload hx hb dXM_set_109 (lv_at hl 0 rfl) ?_
                refine lv_iadd hx hb dXM_set_111 ?_
                refine lv_topi (nm_r (nI_add (8 * i0) k) ?_)
                refine lv_iload hx hb dXM_set_112 (lv_at hl 1 rfl) ?_
                refine lv_icmp_ge (tgt := 139) hx hb dXM_set_114 (by decide) (fun hc => ?_) (fun hc => ?_)
                · have hc : (pz_now x n0) ≤ ((8 * i0) + k) := (nI_leI (a := (pz_now x n0)) (b := ((8 * i0) + k)) (by omega) (by omega)).mp hc
                  refine lv_iinc (k := 0) (v := nI (k + 1)) hx hb dXM_set_139 hl rfl (by rw [nI_succ]; rfl) (by decide) rfl (fun ls hl => ?_)
                  have hl : lv_has ls 11 [(10, .int (nI (k + 1))), (9, .int (nI (pz_now x n0))), (8, .int (nI 1)), (6, .long (pz_mM x (16 * n0 + i0))), (5, .int (nI (8 * (16 * n0 + i0)))), (0, .ref h0), (1, .int (nI n0)), (2, .int (nI i0)), (3, .long w0)] := hl
                  refine lv_goto (tgt := 98) hx hb dXM_set_142 (by decide) ?_
                  exact ih _ _ _ ⟨_, hl, hP, hD, hS, pz_Bk_skip hBk (by omega)⟩
                · have hc : ¬ (pz_now x n0) ≤ ((8 * i0) + k) := fun h9 => hc ((nI_leI (a := (pz_now x n0)) (b := ((8 * i0) + k)) (by omega) (by omega)).mpr h9)
                  refine lv_aload_n hx hb dXM_set_117 rfl (lv_at hl 5 rfl) ?_
                  refine va_get (D := (dC, dI)) (ci := 3) (v := .ref aB) (C := "ParityArrayModel") (T := TXM) (N := 9) hx hb hts (fun w h => List.mem_cons_of_mem _ (inXM w h)) hown hK hP 0 rfl rfl 0 (by decide) (hts _ (List.mem_cons_of_mem _ tw_391)) (fun _ h9 => h9) rfl dXM_set_118 ?_
                  refine lv_iload hx hb dXM_set_121 (lv_at hl 4 rfl) ?_
                  refine lv_iload hx hb dXM_set_123 (lv_at hl 0 rfl) ?_
                  refine lv_iadd hx hb dXM_set_125 ?_
                  refine lv_topi (nm_r (nI_add (8 * (16 * n0 + i0)) k) ?_)
                  refine lv_lload_n hx hb dXM_set_126 rfl (lv_at hl 8 rfl) ?_
                  refine lv_bipush (v := nI 56) hx hb dXM_set_127 (by decide) ?_
                  refine lv_bipush (v := nI 8) hx hb dXM_set_129 (by decide) ?_
                  refine lv_iload hx hb dXM_set_131 (lv_at hl 0 rfl) ?_
                  refine lv_imul hx hb dXM_set_133 ?_
                  refine lv_topi (nm_r (pk_mul 8 k) ?_)
                  refine lv_isub hx hb dXM_set_134 ?_
                  refine lv_topi (nm_r (pk_sub (by omega)) ?_)
                  refine lv_lshr (v := w0 >>> ((nI (56 - 8 * k)).toInt64 &&& 63)) hx hb dXM_set_135 rfl ?_
                  refine lv_l2i (v := (w0 >>> ((nI (56 - 8 * k)).toInt64 &&& 63)).toInt32) hx hb dXM_set_136 rfl ?_
                  refine lv_i2b (v := pz_by w0 k) hx hb dXM_set_137 rfl ?_
                  refine va_bast hx hb hK hP hD hS 1 0 rfl rfl (vp_in_nI (by omega) (by decide)) dXM_set_138 (fun H locs hP hD hS => ?_)
                  rw [nI_clamp (show (8 * (16 * n0 + i0)) + k < 2 ^ 31 by omega), show vp_nar .byte (pz_by w0 k) = pz_by w0 k from pk_vb _] at hP hD
                  have hP : va_P (dC, dI) vwCl [(h0, .inr (3, [.ref aB, .int (pz_b (pz_mo x)), .int (pz_o (pz_ms x)), .int (pz_b (pz_mf x)), .int (nI (pz_mr x)), .int (nI (pz_mF x)), .int (nI (pz_mw x)), .int (nI (pz_mc x)), .int (nI th)])), (aB, .inl (cB, 76800, .inl (upd f1 ((8 * (16 * n0 + i0)) + k) (pz_by w0 k))))] H := hP
                  have hD : va_D A [(h0, .inr (3, [.ref aB, .int (pz_b (pz_mo x)), .int (pz_o (pz_ms x)), .int (pz_b (pz_mf x)), .int (nI (pz_mr x)), .int (nI (pz_mF x)), .int (nI (pz_mw x)), .int (nI (pz_mc x)), .int (nI th)])), (aB, .inl (cB, 76800, .inl (upd f1 ((8 * (16 * n0 + i0)) + k) (pz_by w0 k))))] := hD
                  refine lv_iinc (k := 0) (v := nI (k + 1)) hx hb dXM_set_139 hl rfl (by rw [nI_succ]; rfl) (by decide) rfl (fun ls hl => ?_)
                  have hl : lv_has ls 11 [(10, .int (nI (k + 1))), (9, .int (nI (pz_now x n0))), (8, .int (nI 1)), (6, .long (pz_mM x (16 * n0 + i0))), (5, .int (nI (8 * (16 * n0 + i0)))), (0, .ref h0), (1, .int (nI n0)), (2, .int (nI i0)), (3, .long w0)] := hl
                  refine lv_goto (tgt := 98) hx hb dXM_set_142 (by decide) ?_
                  exact ih _ _ _ ⟨_, hl, hP, hD, hS, pz_Bk_put hBk hk (by omega)⟩
              · intro ls H locs hI
                obtain ⟨f1, hl, hP, hD, hS, hBk⟩ := hI
                refine lv_iload hx hb dXM_set_98 (lv_at hl 0 rfl) ?_
                refine lv_bipush (v := nI 8) hx hb dXM_set_100 (by decide) ?_
                refine lv_icmp_ge (tgt := 145) hx hb dXM_set_102 (by decide) (fun _ => ?_) (fun hc => absurd hc (fun h9 => h9 (nI_le (Nat.le_refl 8) (by decide))))
                refine lv_aload_n hx hb dXM_set_145 rfl (lv_at hl 5 rfl) ?_
                refine lv_iload hx hb dXM_set_146 (lv_at hl 2 rfl) ?_
                refine lv_if_eq (tgt := 155) hx hb dXM_set_148 (by decide) (fun hc => absurd hc (by decide)) (fun _ => ?_)
                refine lv_iconst (v := nI 3) hx hb dXM_set_151 (by decide) ?_
                refine lv_goto (tgt := 156) hx hb dXM_set_152 (by decide) ?_
                refine va_put (D := (dC, dI)) (ci := 3) (v := .int (nI 3)) (ty := .int) (C := "ParityArrayModel") (T := TXM) (N := 9) hx hb hts (fun w h => List.mem_cons_of_mem _ (inXM w h)) tyXM tyXM_ok nmXM hown hK hP hD hS 0 rfl rfl 8 (by decide) (hts _ (List.mem_cons_of_mem _ tw_399)) (fun _ h9 => h9) rfl (by decide +kernel) rfl rfl (Nat.le_of_ble_eq_true rfl) dXM_set_156 (fun H locs hP hD hS => ?_)
                have hP : va_P (dC, dI) vwCl [(h0, .inr (3, [.ref aB, .int (pz_b (pz_mo x)), .int (pz_o (pz_ms x)), .int (pz_b (pz_mf x)), .int (nI (pz_mr x)), .int (nI (pz_mF x)), .int (nI (pz_mw x)), .int (nI (pz_mc x)), .int (nI 3)])), (aB, .inl (cB, 76800, .inl f1))] H := hP
                have hD : va_D A [(h0, .inr (3, [.ref aB, .int (pz_b (pz_mo x)), .int (pz_o (pz_ms x)), .int (pz_b (pz_mf x)), .int (nI (pz_mr x)), .int (nI (pz_mF x)), .int (nI (pz_mw x)), .int (nI (pz_mc x)), .int (nI 3)])), (aB, .inl (cB, 76800, .inl f1))] := hD
                refine lv_iload hx hb dXM_set_159 (lv_at hl 2 rfl) ?_
                refine lv_if_ne (tgt := 167) hx hb dXM_set_161 (by decide) (fun _ => ?_) (fun hc => absurd hc (by decide))
                refine lv_aload_n hx hb dXM_set_167 rfl (lv_at hl 5 rfl) ?_
                refine lv_iconst (v := nI 0) hx hb dXM_set_168 (by decide) ?_
                refine va_put (D := (dC, dI)) (ci := 3) (v := .int (nI 0)) (ty := .int) (C := "ParityArrayModel") (T := TXM) (N := 9) hx hb hts (fun w h => List.mem_cons_of_mem _ (inXM w h)) tyXM tyXM_ok nmXM hown hK hP hD hS 0 rfl rfl 5 (by decide) (hts _ (List.mem_cons_of_mem _ tw_396)) (fun _ h9 => h9) rfl (by decide +kernel) rfl rfl (Nat.le_of_ble_eq_true rfl) dXM_set_169 (fun H locs hP hD hS => ?_)
                have hP : va_P (dC, dI) vwCl [(h0, .inr (3, [.ref aB, .int (pz_b (pz_mo x)), .int (pz_o (pz_ms x)), .int (pz_b (pz_mf x)), .int (nI (pz_mr x)), .int (nI 0), .int (nI (pz_mw x)), .int (nI (pz_mc x)), .int (nI 3)])), (aB, .inl (cB, 76800, .inl f1))] H := hP
                have hD : va_D A [(h0, .inr (3, [.ref aB, .int (pz_b (pz_mo x)), .int (pz_o (pz_ms x)), .int (pz_b (pz_mf x)), .int (nI (pz_mr x)), .int (nI 0), .int (nI (pz_mw x)), .int (nI (pz_mc x)), .int (nI 3)])), (aB, .inl (cB, 76800, .inl f1))] := hD
                refine lv_aload_n hx hb dXM_set_172 rfl (lv_at hl 5 rfl) ?_
                refine lv_iconst (v := nI 0) hx hb dXM_set_173 (by decide) ?_
                refine va_put (D := (dC, dI)) (ci := 3) (v := .int (nI 0)) (ty := .boolean) (C := "ParityArrayModel") (T := TXM) (N := 9) hx hb hts (fun w h => List.mem_cons_of_mem _ (inXM w h)) tyXM tyXM_ok nmXM hown hK hP hD hS 0 rfl rfl 1 (by decide) (hts _ (List.mem_cons_of_mem _ tw_392)) (fun _ h9 => h9) rfl (by decide +kernel) rfl rfl (Nat.le_of_ble_eq_true rfl) dXM_set_174 (fun H locs hP hD hS => ?_)
                have hP : va_P (dC, dI) vwCl [(h0, .inr (3, [.ref aB, .int (pz_b false), .int (pz_o (pz_ms x)), .int (pz_b (pz_mf x)), .int (nI (pz_mr x)), .int (nI 0), .int (nI (pz_mw x)), .int (nI (pz_mc x)), .int (nI 3)])), (aB, .inl (cB, 76800, .inl f1))] H := hP
                have hD : va_D A [(h0, .inr (3, [.ref aB, .int (pz_b false), .int (pz_o (pz_ms x)), .int (pz_b (pz_mf x)), .int (nI (pz_mr x)), .int (nI 0), .int (nI (pz_mw x)), .int (nI (pz_mc x)), .int (nI 3)])), (aB, .inl (cB, 76800, .inl f1))] := hD
                refine lv_lconst (v := 0) hx hb dXM_set_177 (by decide) ?_
                exact W.lret (v := 0) hx hb hr (fun t ht hW => ⟨⟨_, ((vp_updL (pz_mM x) (16 * n0 + i0) (pz_cut (pz_now x n0) i0 w0 (pz_mM x (16 * n0 + i0))), false, pz_ms x, pz_mf x, pz_mr x, 0, pz_mw x, pz_mc x), 3, f1), rfl, ⟨by unfold pz_gS pz_mset; rw [if_neg (by rw [hon]; decide), if_neg (by rw [pz_isL_nI hn0 hi0]; decide), nI_clamp (show n0 < 2 ^ 31 by omega), nI_clamp (show i0 < 2 ^ 31 by omega)]; simp [hfl], pz_Bk_8 hBk⟩, by rw [ht]; exact hP, va_K.moved hW.alike hK, hAe ▸ hD⟩, hS.F ht⟩) hS.2.2 dXM_set_178
          · have hL := show pz_isL n i = false from decide_eq_false (fun h9 => Int32.not_lt.mpr (Int32.not_lt.mp hc) h9.2.2.2)
            refine lv_aload_n hx hb dXM_set_35 rfl (lv_at hl 0 rfl) ?_
            refine lv_iconst (v := nI 2) hx hb dXM_set_36 (by decide) ?_
            have hPc := hP
            have hDc := hD
            have hFc := va_free (wc := [(h0, .inr (3, [.ref aB, .int (pz_b (pz_mo x)), .int (pz_o (pz_ms x)), .int (pz_b (pz_mf x)), .int (nI (pz_mr x)), .int (nI (pz_mF x)), .int (nI (pz_mw x)), .int (nI (pz_mc x)), .int (nI th)])), (aB, .inl (cB, 76800, .inl f))]) hD hS hA [0, 1] rfl
            refine va_calli (va_runV (As := [.int (nI 2)]) (rest := []) ⟨hx, hb, hml, hown, hts⟩ (c_XM_fails l dC dI _ h0 aB cB f x th 2) (cwV 1 hts (pz_gc (List.mem_cons_of_mem _ tw_427) rfl (pz_gc (List.mem_cons_of_mem _ tw_429) rfl (pz_gc (List.mem_cons_of_mem _ ts_9) rfl (pz_gc (List.mem_cons_of_mem _ tw_4) rfl (pz_gi tcXM_fails))))) rfl rfl rfl (by decide +kernel) ⟨Nat.le_of_ble_eq_true rfl, Nat.le_of_ble_eq_true rfl⟩) (pz_preVw (va_recv hK hPc (q0 := 0) rfl rfl) hPc hK hDc) rfl rfl hl.1 rfl (lv_room (Nat.le_of_ble_eq_true rfl)) dXM_set_37 ⟨Nat.zero_le _, Nat.zero_le _⟩) hS (fun q _ h => hFc q h) hFc (fun r u t H1 locs ht hvm hw hB hz hk1 hS => ?_)
            obtain ⟨hP1, hK1, hD1⟩ := hB
            rw [ht] at hP1
            obtain ⟨rfl, rfl⟩ := hw
            obtain ⟨hP, hD⟩ := va_join (wr := []) hP hD [0, 1] [] rfl rfl (by decide) (by decide) hk1 hFc hP1 hD1
            clear hPc hDc hFc hP1 hD1 hK1 hk1 hz ht hvm
            generalize H1 = H at hP hS ⊢
            have hP : va_P (dC, dI) vwCl [(h0, .inr (3, [.ref aB, .int (pz_b (pz_mo x)), .int (pz_o (pz_ms x)), .int (pz_b (pz_mf x)), .int (nI (pz_mr x)), .int (nI (pz_mF x)), .int (nI (pz_mw x)), .int (nI (pz_mc x)), .int (nI 2)])), (aB, .inl (cB, 76800, .inl f))] H := hP
            have hD : va_D A [(h0, .inr (3, [.ref aB, .int (pz_b (pz_mo x)), .int (pz_o (pz_ms x)), .int (pz_b (pz_mf x)), .int (nI (pz_mr x)), .int (nI (pz_mF x)), .int (nI (pz_mw x)), .int (nI (pz_mc x)), .int (nI 2)])), (aB, .inl (cB, 76800, .inl f))] := hD
            refine lv_i2l (v := 0) hx hb dXM_set_40 (by decide) ?_
            exact W.lret (v := 0) hx hb hr (fun t ht hW => ⟨⟨_, (x, 2, f), rfl, ⟨by unfold pz_gS; rw [if_neg (by rw [hon]; decide), if_pos hL], hBy⟩, by rw [ht]; exact hP, va_K.moved hW.alike hK, hAe ▸ hD⟩, hS.F ht⟩) hS.2.2 dXM_set_41
  · have hc : (pz_mo x) = false := pz_b0.mp hc
    refine lv_aload_n hx hb dXM_set_7 rfl (lv_at hl 0 rfl) ?_
    refine lv_iconst (v := nI 1) hx hb dXM_set_8 (by decide) ?_
    have hPc := hP
    have hDc := hD
    have hFc := va_free (wc := [(h0, .inr (3, [.ref aB, .int (pz_b (pz_mo x)), .int (pz_o (pz_ms x)), .int (pz_b (pz_mf x)), .int (nI (pz_mr x)), .int (nI (pz_mF x)), .int (nI (pz_mw x)), .int (nI (pz_mc x)), .int (nI th)])), (aB, .inl (cB, 76800, .inl f))]) hD hS hA [0, 1] rfl
    refine va_calli (va_runV (As := [.int (nI 1)]) (rest := []) ⟨hx, hb, hml, hown, hts⟩ (c_XM_fails l dC dI _ h0 aB cB f x th 1) (cwV 1 hts (pz_gc (List.mem_cons_of_mem _ tw_427) rfl (pz_gc (List.mem_cons_of_mem _ tw_429) rfl (pz_gc (List.mem_cons_of_mem _ ts_9) rfl (pz_gc (List.mem_cons_of_mem _ tw_4) rfl (pz_gi tcXM_fails))))) rfl rfl rfl (by decide +kernel) ⟨Nat.le_of_ble_eq_true rfl, Nat.le_of_ble_eq_true rfl⟩) (pz_preVw (va_recv hK hPc (q0 := 0) rfl rfl) hPc hK hDc) rfl rfl hl.1 rfl (lv_room (Nat.le_of_ble_eq_true rfl)) dXM_set_9 ⟨Nat.zero_le _, Nat.zero_le _⟩) hS (fun q _ h => hFc q h) hFc (fun r u t H1 locs ht hvm hw hB hz hk1 hS => ?_)
    obtain ⟨hP1, hK1, hD1⟩ := hB
    rw [ht] at hP1
    obtain ⟨rfl, rfl⟩ := hw
    obtain ⟨hP, hD⟩ := va_join (wr := []) hP hD [0, 1] [] rfl rfl (by decide) (by decide) hk1 hFc hP1 hD1
    clear hPc hDc hFc hP1 hD1 hK1 hk1 hz ht hvm
    generalize H1 = H at hP hS ⊢
    have hP : va_P (dC, dI) vwCl [(h0, .inr (3, [.ref aB, .int (pz_b (pz_mo x)), .int (pz_o (pz_ms x)), .int (pz_b (pz_mf x)), .int (nI (pz_mr x)), .int (nI (pz_mF x)), .int (nI (pz_mw x)), .int (nI (pz_mc x)), .int (nI 1)])), (aB, .inl (cB, 76800, .inl f))] H := hP
    have hD : va_D A [(h0, .inr (3, [.ref aB, .int (pz_b (pz_mo x)), .int (pz_o (pz_ms x)), .int (pz_b (pz_mf x)), .int (nI (pz_mr x)), .int (nI (pz_mF x)), .int (nI (pz_mw x)), .int (nI (pz_mc x)), .int (nI 1)])), (aB, .inl (cB, 76800, .inl f))] := hD
    refine lv_i2l (v := 0) hx hb dXM_set_12 (by decide) ?_
    exact W.lret (v := 0) hx hb hr (fun t ht hW => ⟨⟨_, (x, 1, f), rfl, ⟨by unfold pz_gS; rw [if_pos hc], hBy⟩, by rw [ht]; exact hP, va_K.moved hW.alike hK, hAe ▸ hD⟩, hS.F ht⟩) hS.2.2 dXM_set_13

