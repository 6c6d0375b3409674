/-! ParityArray: statics and reads (laid by a program) -/
set_option maxHeartbeats 4000000 in
set_option maxRecDepth 100000 in
/-- is there such a long -/
theorem c_XP_isLong (l : Launch) (n0 i0 : Int32) : Met l yXP_isLong wsXP_isLong ({ frames := 0, cells := 0, slots := 0, locals := 0 }) (va_Pc [.int n0, .int i0] (fun _ => True)) (va_Qi (fun (r : Int32) (u : Unit) => r = pz_b (pz_isL n0 i0)) (fun _ _ => True) (fun _ => False)) 0 0 (fun _ => False) := by
  refine Met.ofW (cc := cXP_isLong) (maxL := 2) (ret := (some .boolean)) (by decide) rfl ?_
  intro p e s m args below meth c s₁ B hml hv
  obtain ⟨rfl, -⟩ := hv
  have hx := B.exec
  have hb := B.bytes
  have hr := B.returns
  have hts := atoms_spec (ws := wsXP_isLong) B.pre
  have hown : s.vm.findClass "ParityArray" = some m.cls := findClass_of_methodNamed B.named
  have hlocks := B.notSynchronized
  have hS : va_S (fun _ => False) s.heap s.heap [] := va_S.rf
  have hl := lv_entry ([.int n0, .int i0]) (n := 2) (Nat.le_of_ble_eq_true rfl)
  rw [lg_entry_eq]
  generalize (lg_sl ([.int n0, .int i0]) ++ List.replicate (2 - (lg_sl ([.int n0, .int i0])).length) Slot.unset).toArray = ls at hl ⊢
  have hl : lv_has ls 2 [(0, .int n0), (1, .int i0)] := hl
  refine lv_iload_n hx hb dXP_isLong_0 rfl (lv_at hl 0 rfl) ?_
  refine lv_if_lt (tgt := 25) hx hb dXP_isLong_1 (by decide) (fun hc => ?_) (fun hc => ?_)
  · refine lv_iconst (v := nI 0) hx hb dXP_isLong_25 (by decide) ?_
    exact W.zret (v := nI 0) hx hb hr rfl (fun t ht hW => ⟨⟨_, (), rfl, by rw [show pz_isL n0 i0 = false from decide_eq_false (fun h9 => Int32.not_le.mpr hc h9.1)]; rfl, trivial⟩, hS.F ht⟩) hS.2.2 dXP_isLong_26
  · have h1 := hc
    refine lv_iload_n hx hb dXP_isLong_4 rfl (lv_at hl 0 rfl) ?_
    refine lv_sipush (v := nI 600) hx hb dXP_isLong_5 (by decide) ?_
    refine lv_icmp_ge (tgt := 25) hx hb dXP_isLong_8 (by decide) (fun hc => ?_) (fun hc => ?_)
    · refine lv_iconst (v := nI 0) hx hb dXP_isLong_25 (by decide) ?_
      exact W.zret (v := nI 0) hx hb hr rfl (fun t ht hW => ⟨⟨_, (), rfl, by rw [show pz_isL n0 i0 = false from decide_eq_false (fun h9 => Int32.not_lt.mpr hc h9.2.1)]; rfl, trivial⟩, hS.F ht⟩) hS.2.2 dXP_isLong_26
    · have h2 := hc
      refine lv_iload_n hx hb dXP_isLong_11 rfl (lv_at hl 1 rfl) ?_
      refine lv_if_lt (tgt := 25) hx hb dXP_isLong_12 (by decide) (fun hc => ?_) (fun hc => ?_)
      · refine lv_iconst (v := nI 0) hx hb dXP_isLong_25 (by decide) ?_
        exact W.zret (v := nI 0) hx hb hr rfl (fun t ht hW => ⟨⟨_, (), rfl, by rw [show pz_isL n0 i0 = false from decide_eq_false (fun h9 => Int32.not_le.mpr hc h9.2.2.1)]; rfl, trivial⟩, hS.F ht⟩) hS.2.2 dXP_isLong_26
      · have h3 := hc
        refine lv_iload_n hx hb dXP_isLong_15 rfl (lv_at hl 1 rfl) ?_
        refine lv_bipush (v := nI 16) hx hb dXP_isLong_16 (by decide) ?_
        refine lv_icmp_ge (tgt := 25) hx hb dXP_isLong_18 (by decide) (fun hc => ?_) (fun hc => ?_)
        · refine lv_iconst (v := nI 0) hx hb dXP_isLong_25 (by decide) ?_
          exact W.zret (v := nI 0) hx hb hr rfl (fun t ht hW => ⟨⟨_, (), rfl, by rw [show pz_isL n0 i0 = false from decide_eq_false (fun h9 => Int32.not_lt.mpr hc h9.2.2.2)]; rfl, trivial⟩, hS.F ht⟩) hS.2.2 dXP_isLong_26
        · refine lv_iconst (v := nI 1) hx hb dXP_isLong_21 (by decide) ?_
          refine lv_goto (tgt := 26) hx hb dXP_isLong_22 (by decide) ?_
          exact W.zret (v := nI 1) hx hb hr rfl (fun t ht hW => ⟨⟨_, (), rfl, by rw [show pz_isL n0 i0 = true from decide_eq_true ⟨Int32.not_lt.mp h1, Int32.not_le.mp h2, Int32.not_lt.mp h3, Int32.not_le.mp hc⟩]; rfl, trivial⟩, hS.F ht⟩) hS.2.2 dXP_isLong_26

set_option maxHeartbeats 4000000 in
set_option maxRecDepth 100000 in
theorem c_XP_stripeOf (l : Launch) (n0 : Nat) (hn0 : n0 < 600) : Met l yXP_stripeOf wsXP_stripeOf ({ frames := 0, cells := 0, slots := 0, locals := 0 }) (va_Pc [.int (nI n0)] (fun _ => True)) (va_Qi (fun (r : Int32) (u : Unit) => r = nI (n0 / 4)) (fun _ _ => True) (fun _ => False)) 0 0 (fun _ => False) := by
  refine Met.ofW (cc := cXP_stripeOf) (maxL := 1) (ret := (some .int)) (by decide) rfl ?_
  intro p e s m args below meth c s₁ B hml hv
  obtain ⟨rfl, -⟩ := hv
  have hx := B.exec
  have hb := B.bytes
  have hr := B.returns
  have hts := atoms_spec (ws := wsXP_stripeOf) B.pre
  have hown : s.vm.findClass "ParityArray" = some m.cls := findClass_of_methodNamed B.named
  have hlocks := B.notSynchronized
  have hS : va_S (fun _ => False) s.heap s.heap [] := va_S.rf
  have hl := lv_entry ([.int (nI n0)]) (n := 1) (Nat.le_of_ble_eq_true rfl)
  rw [lg_entry_eq]
  generalize (lg_sl ([.int (nI n0)]) ++ List.replicate (1 - (lg_sl ([.int (nI n0)])).length) Slot.unset).toArray = ls at hl ⊢
  have hl : lv_has ls 1 [(0, .int (nI n0))] := hl
  refine lv_iload_n hx hb dXP_stripeOf_0 rfl (lv_at hl 0 rfl) ?_
  refine lv_iconst (v := nI 4) hx hb dXP_stripeOf_1 (by decide) ?_
  refine lv_idiv hx hb dXP_stripeOf_2 (by decide) ?_
  refine lv_topi (nm_r (pk_div (by omega) (by decide) (by decide)) ?_)
  exact W.iret (v := nI (n0 / 4)) hx hb hr (fun t ht hW => ⟨⟨_, (), rfl, rfl, trivial⟩, hS.F ht⟩) hS.2.2 dXP_stripeOf_3

set_option maxHeartbeats 4000000 in
set_option maxRecDepth 100000 in
theorem c_XP_parityDiskOf (l : Launch) (n0 : Nat) (hn0 : n0 < 150) : Met l yXP_parityDiskOf wsXP_parityDiskOf ({ frames := 0, cells := 0, slots := 0, locals := 0 }) (va_Pc [.int (nI n0)] (fun _ => True)) (va_Qi (fun (r : Int32) (u : Unit) => r = nI (n0 % 5)) (fun _ _ => True) (fun _ => False)) 0 0 (fun _ => False) := by
  refine Met.ofW (cc := cXP_parityDiskOf) (maxL := 1) (ret := (some .int)) (by decide) rfl ?_
  intro p e s m args below meth c s₁ B hml hv
  obtain ⟨rfl, -⟩ := hv
  have hx := B.exec
  have hb := B.bytes
  have hr := B.returns
  have hts := atoms_spec (ws := wsXP_parityDiskOf) B.pre
  have hown : s.vm.findClass "ParityArray" = some m.cls := findClass_of_methodNamed B.named
  have hlocks := B.notSynchronized
  have hS : va_S (fun _ => False) s.heap s.heap [] := va_S.rf
  have hl := lv_entry ([.int (nI n0)]) (n := 1) (Nat.le_of_ble_eq_true rfl)
  rw [lg_entry_eq]
  generalize (lg_sl ([.int (nI n0)]) ++ List.replicate (1 - (lg_sl ([.int (nI n0)])).length) Slot.unset).toArray = ls at hl ⊢
  have hl : lv_has ls 1 [(0, .int (nI n0))] := hl
  refine lv_iload_n hx hb dXP_parityDiskOf_0 rfl (lv_at hl 0 rfl) ?_
  refine lv_iconst (v := nI 5) hx hb dXP_parityDiskOf_1 (by decide) ?_
  refine lv_irem hx hb dXP_parityDiskOf_2 (by decide) ?_
  refine lv_topi (nm_r (pk_rem (by omega) (by decide) (by decide)) ?_)
  exact W.iret (v := nI (n0 % 5)) hx hb hr (fun t ht hW => ⟨⟨_, (), rfl, rfl, trivial⟩, hS.F ht⟩) hS.2.2 dXP_parityDiskOf_3

set_option maxHeartbeats 4000000 in
set_option maxRecDepth 100000 in
theorem c_XP_diskOf (l : Launch) (n0 : Nat) (hn0 : n0 < 600) : Met l yXP_diskOf wsXP_diskOf ({ frames := 1, cells := 0, slots := 0, locals := 20 }) (va_Pc [.int (nI n0)] (fun _ => True)) (va_Qi (fun (r : Int32) (u : Unit) => r = nI (pz_dn n0)) (fun _ _ => True) (fun _ => False)) 0 0 (fun _ => False) := by
  refine Met.ofW (cc := cXP_diskOf) (maxL := 2) (ret := (some .int)) (by decide) rfl ?_
  intro p e s m args below meth c s₁ B hml hv
  obtain ⟨rfl, -⟩ := hv
  have hx := B.exec
  have hb := B.bytes
  have hr := B.returns
  have hts := atoms_spec (ws := wsXP_diskOf) B.pre
  have hown : s.vm.findClass "ParityArray" = some m.cls := findClass_of_methodNamed B.named
  have hlocks := B.notSynchronized
  have hS : va_S (fun _ => False) s.heap s.heap [] := va_S.rf
  have hl := lv_entry ([.int (nI n0)]) (n := 2) (Nat.le_of_ble_eq_true rfl)
  rw [lg_entry_eq]
  generalize (lg_sl ([.int (nI n0)]) ++ List.replicate (2 - (lg_sl ([.int (nI n0)])).length) Slot.unset).toArray = ls at hl ⊢
  have hl : lv_has ls 2 [(0, .int (nI n0))] := hl
  refine lv_iload_n hx hb dXP_diskOf_0 rfl (lv_at hl 0 rfl) ?_
  refine lv_iconst (v := nI 4) hx hb dXP_diskOf_1 (by decide) ?_
  refine lv_irem hx hb dXP_diskOf_2 (by decide) ?_
  refine lv_topi (nm_r (pk_rem (by omega) (by decide) (by decide)) ?_)
  refine lv_istore_n hx hb dXP_diskOf_3 rfl hl (by decide) rfl (fun ls hl => ?_)
  have hl : lv_has ls 2 [(1, .int (nI (n0 % 4))), (0, .int (nI n0))] := hl
  refine lv_iload_n hx hb dXP_diskOf_4 rfl (lv_at hl 0 rfl) ?_
  refine lv_iload_n hx hb dXP_diskOf_5 rfl (lv_at hl 1 rfl) ?_
  refine va_calli (va_runS (As := [.int (nI n0)]) (rest := [.int (nI (n0 % 4))]) ⟨hx, hb, hml, hown, hts⟩ (c_XP_stripeOf l n0 hn0) (va_cwS 1 hts (pz_gc (List.mem_cons_of_mem _ tw_198) rfl (pz_gc (List.mem_cons_of_mem _ tw_199) rfl (pz_gc (List.mem_cons_of_mem _ tw_1) rfl (pz_gi tcXP_stripeOf)))) rfl rfl rfl (by decide +kernel) ⟨Nat.le_of_ble_eq_true rfl, Nat.le_of_ble_eq_true rfl⟩) pz_preS0 rfl rfl hl.1 rfl (lv_room (Nat.le_of_ble_eq_true rfl)) dXP_diskOf_6 ⟨Nat.zero_le _, Nat.zero_le _⟩) hS (fun q _ h => h.elim) (fun q h => h.elim) (fun r u t H locs ht hvm hw _ hz hk9 hS => ?_)
  clear hk9 hz ht hvm
  subst hw
  refine va_calli (va_runS (As := [.int (nI (n0 / 4))]) (rest := [.int (nI (n0 % 4))]) ⟨hx, hb, hml, hown, hts⟩ (c_XP_parityDiskOf l (n0 / 4) (by omega)) (va_cwS 1 hts (pz_gc (List.mem_cons_of_mem _ tw_204) rfl (pz_gc (List.mem_cons_of_mem _ tw_205) rfl (pz_gc (List.mem_cons_of_mem _ tw_1) rfl (pz_gi tcXP_parityDiskOf)))) rfl rfl rfl (by decide +kernel) ⟨Nat.le_of_ble_eq_true rfl, Nat.le_of_ble_eq_true rfl⟩) pz_preS0 rfl rfl hl.1 rfl (lv_room (Nat.le_of_ble_eq_true rfl)) dXP_diskOf_9 ⟨Nat.zero_le _, Nat.zero_le _⟩) hS (fun q _ h => h.elim) (fun q h => h.elim) (fun r u t H locs ht hvm hw _ hz hk9 hS => ?_)
  clear hk9 hz ht hvm
  subst hw
  refine lv_icmp_ge (tgt := 19) hx hb dXP_diskOf_12 (by decide) (fun hc => ?_) (fun hc => ?_)
  · have hc : (n0 / 4 % 5) ≤ (n0 % 4) := (nI_leI (a := (n0 / 4 % 5)) (b := (n0 % 4)) (by omega) (by omega)).mp hc
    refine lv_iload_n hx hb dXP_diskOf_19 rfl (lv_at hl 0 rfl) ?_
    refine lv_iconst (v := nI 1) hx hb dXP_diskOf_20 (by decide) ?_
    refine lv_iadd hx hb dXP_diskOf_21 ?_
    refine lv_topi (nm_r (nI_add (n0 % 4) 1) ?_)
    exact W.iret (v := nI ((n0 % 4) + 1)) hx hb hr (fun t ht hW => ⟨⟨_, (), rfl, by unfold pz_dn; rw [if_neg (by omega)], trivial⟩, hS.F ht⟩) hS.2.2 dXP_diskOf_22
  · have hc : ¬ (n0 / 4 % 5) ≤ (n0 % 4) := fun h9 => hc ((nI_leI (a := (n0 / 4 % 5)) (b := (n0 % 4)) (by omega) (by omega)).mpr h9)
    refine lv_iload_n hx hb dXP_diskOf_15 rfl (lv_at hl 0 rfl) ?_
    refine lv_goto (tgt := 22) hx hb dXP_diskOf_16 (by decide) ?_
    exact W.iret (v := nI (n0 % 4)) hx hb hr (fun t ht hW => ⟨⟨_, (), rfl, by unfold pz_dn; rw [if_pos (by omega)], trivial⟩, hS.F ht⟩) hS.2.2 dXP_diskOf_22

set_option maxHeartbeats 4000000 in
set_option maxRecDepth 100000 in
/-- the disk that is not WELL -/
theorem c_XP_unwellDisk (l : Launch) (dC : Nat → ClassId) (dI : Nat → Nat → Nat) (a : pz_Ad) (cJ cD : ClassId) (dk : Nat → pz_Dk) (su : pz_Su) (bl pt py : Nat → Int64) (sk : Option Nat) (hth : ∀ d, d < 5 → pz_th (dk d) ≤ 150) (h1 : ∀ d, d < 5 → sk ≠ some d → pz_th (dk d) = 150) (h2 : ∀ d, sk = some d → d < 5 ∧ pz_th (dk d) < 150) : Met l yXP_unwellDisk wsXP_unwellDisk ({ frames := 1, cells := 0, slots := 0, locals := 20 }) (va_Pc [.ref (pz_ax a)] (fun U => va_P (dC, dI) vwCl (pz_XW a cJ cD dk su bl pt py) U.heap ∧ va_K (dC, dI) vwCl [(cJ, .long), (cD, .object "ParityArray$Disk")] U)) (va_Qi (fun (r : Int32) (u : Unit) => r = pz_o sk) (fun _ _ => True) (fun _ => False)) 0 0 (fun _ => False) := by
  refine Met.ofW (cc := cXP_unwellDisk) (maxL := 2) (ret := (some .int)) (by decide) rfl ?_
  intro p e s m args below meth c s₁ B hml hv
  obtain ⟨rfl, hP, hK⟩ := hv
  have hx := B.exec
  have hb := B.bytes
  have hr := B.returns
  have hts := atoms_spec (ws := wsXP_unwellDisk) B.pre
  have hown : s.vm.findClass "ParityArray" = some m.cls := findClass_of_methodNamed B.named
  have hlocks := B.notSynchronized
  have hS : va_S (fun _ => False) s.heap s.heap [] := va_S.rf
  have hl := lv_entry ([.ref (pz_ax a)]) (n := 2) (Nat.le_of_ble_eq_true rfl)
  rw [lg_entry_eq]
  generalize (lg_sl ([.ref (pz_ax a)]) ++ List.replicate (2 - (lg_sl ([.ref (pz_ax a)])).length) Slot.unset).toArray = ls at hl ⊢
  have hl : lv_has ls 2 [(0, .ref (pz_ax a))] := hl
  have hP : va_P (dC, dI) vwCl (pz_XW a cJ cD dk su bl pt py) s.heap := hP
  refine lv_iconst (v := nI 0) hx hb dXP_unwellDisk_0 (by decide) ?_
  refine lv_istore_n hx hb dXP_unwellDisk_1 rfl hl (by decide) rfl (fun ls hl => ?_)
  have hl : lv_has ls 2 [(1, .int (nI 0)), (0, .ref (pz_ax a))] := hl
  refine pz_loop (fun _ => 0) (fun _ => 0) 5 (fun k ls H locs => lv_has ls 2 [(1, .int (nI k)), (0, .ref (pz_ax a))] ∧ va_P (dC, dI) vwCl (pz_XW a cJ cD dk su bl pt py) H ∧ va_S (fun _ => False) s.heap H locs ∧ ∀ d, d < k → pz_th (dk d) = 150) ?_ ?_ 5 0 (by omega) _ _ _ ⟨hl, hP, hS, fun d h9 => absurd h9 (Nat.not_lt_zero _)⟩
  · intro k ls H locs hk hI ih
    obtain ⟨hl, hP, hS, hI4⟩ := hI
    refine lv_iload_n hx hb dXP_unwellDisk_2 rfl (lv_at hl 0 rfl) ?_
    refine lv_iconst (v := nI 5) hx hb dXP_unwellDisk_3 (by decide) ?_
    refine lv_icmp_ge (tgt := 27) hx hb dXP_unwellDisk_4 (by decide) (fun hc => absurd hc (nI_ge hk (by decide))) (fun _ => ?_)
    refine lv_aload_n hx hb dXP_unwellDisk_7 rfl (lv_at hl 1 rfl) ?_
    refine va_get (D := (dC, dI)) (ci := 2) (v := .ref (pz_ad a)) (C := "ParityArray") (T := TXP) (N := 5) hx hb hts (fun w h => List.mem_cons_of_mem _ (inXP w h)) hown hK hP 0 rfl rfl 0 (by decide) (hts _ (List.mem_cons_of_mem _ tw_80)) (fun _ h9 => h9) rfl dXP_unwellDisk_8 ?_
    refine lv_iload_n hx hb dXP_unwellDisk_11 rfl (lv_at hl 0 rfl) ?_
    refine pz_ald hx hb hK hP 1 rfl hk dXP_unwellDisk_12 ?_
    refine va_calli (va_runV (As := []) (rest := []) ⟨hx, hb, hml, hown, hts⟩ (c_XD_isWell l dC dI _ _ _ cJ (dk k) (hth k hk)) (cwV 0 hts (pz_gc (List.mem_cons_of_mem _ tw_289) rfl (pz_gc (List.mem_cons_of_mem _ tw_290) rfl (pz_gc (List.mem_cons_of_mem _ tw_291) rfl (pz_gc (List.mem_cons_of_mem _ tw_3) rfl (pz_gi tcXD_isWell))))) rfl rfl rfl (by decide +kernel) ⟨Nat.le_of_ble_eq_true rfl, Nat.le_of_ble_eq_true rfl⟩) (pz_preV (va_recv hK (pz_Xd_P (d := k) hk hP) (q0 := 0) rfl rfl) (pz_Xd_P (d := k) hk hP) (hK.sub [0] rfl)) rfl rfl hl.1 rfl (lv_room (Nat.le_of_ble_eq_true rfl)) dXP_unwellDisk_13 ⟨Nat.zero_le _, Nat.zero_le _⟩) hS (fun q _ h => h.elim) (fun q h => h.elim) (fun r u t H locs ht hvm hw _ hz hk9 hS => ?_)
    have hP := pz_keep hP hk9
    clear hk9 hz ht hvm
    subst hw
    refine lv_if_ne (tgt := 21) hx hb dXP_unwellDisk_16 (by decide) (fun hc => ?_) (fun hc => ?_)
    · have hc : (decide (pz_th (dk k) = 150)) = true := pz_bn hc
      have hc := of_decide_eq_true hc
      refine lv_iinc (k := 0) (v := nI (k + 1)) hx hb dXP_unwellDisk_21 hl rfl (by rw [nI_succ]; rfl) (by decide) rfl (fun ls hl => ?_)
      have hl : lv_has ls 2 [(1, .int (nI (k + 1))), (0, .ref (pz_ax a))] := hl
      refine lv_goto (tgt := 2) hx hb dXP_unwellDisk_24 (by decide) ?_
      exact ih _ _ _ ⟨hl, hP, hS, fun d h9 => by rcases Nat.lt_succ_iff_lt_or_eq.mp h9 with h | h; exact hI4 d h; rw [h]; exact hc⟩
    · have hc : (decide (pz_th (dk k) = 150)) = false := pz_b0.mp hc
      have hc := of_decide_eq_false hc
      refine lv_iload_n hx hb dXP_unwellDisk_19 rfl (lv_at hl 0 rfl) ?_
      exact W.iret (v := nI k) hx hb hr (fun t ht hW => ⟨⟨_, (), rfl, by rw [show sk = some k from Classical.byContradiction fun h9 => hc (h1 k hk h9)]; rfl, trivial⟩, hS.F ht⟩) hS.2.2 dXP_unwellDisk_20
  · intro ls H locs hI
    obtain ⟨hl, hP, hS, hI4⟩ := hI
    refine lv_iload_n hx hb dXP_unwellDisk_2 rfl (lv_at hl 0 rfl) ?_
    refine lv_iconst (v := nI 5) hx hb dXP_unwellDisk_3 (by decide) ?_
    refine lv_icmp_ge (tgt := 27) hx hb dXP_unwellDisk_4 (by decide) (fun _ => ?_) (fun hc => absurd hc (fun h9 => h9 (nI_le (Nat.le_refl 5) (by decide))))
    refine lv_iconst (v := (-1)) hx hb dXP_unwellDisk_27 (by decide) ?_
    exact W.iret (v := (-1)) hx hb hr (fun t ht hW => ⟨⟨_, (), rfl, by cases hsk : sk with | none => rfl | some d => exact absurd (hI4 d (h2 d hsk).1) (Nat.ne_of_lt (h2 d hsk).2), trivial⟩, hS.F ht⟩) hS.2.2 dXP_unwellDisk_28

set_option maxHeartbeats 4000000 in
set_option maxRecDepth 100000 in
/-- the other disks together -/
theorem c_XP_othersTogether (l : Launch) (dC : Nat → ClassId) (dI : Nat → Nat → Nat) (a : pz_Ad) (cJ cD : ClassId) (dk : Nat → pz_Dk) (su : pz_Su) (bl pt py : Nat → Int64) (d0 s0 i0 : Nat) (hth : ∀ d, d < 5 → pz_th (dk d) ≤ 150) (hd0 : d0 < 5) (hs0 : s0 < 150) (hi0 : i0 < 16) : Met l yXP_othersTogether wsXP_othersTogether ({ frames := 1, cells := 0, slots := 0, locals := 22 }) (va_Pc [.ref (pz_ax a), .int (nI d0), .int (nI s0), .int (nI i0)] (fun U => va_P (dC, dI) vwCl (pz_XW a cJ cD dk su bl pt py) U.heap ∧ va_K (dC, dI) vwCl [(cJ, .long), (cD, .object "ParityArray$Disk")] U)) (va_Ql (fun (r : Int64) (u : Unit) => r = pz_oth (fun e => pz_R (dk e) (16 * s0 + i0)) d0 5) (fun _ _ => True) (fun _ => False)) 0 0 (fun _ => False) := by
  refine Met.ofW (cc := cXP_othersTogether) (maxL := 7) (ret := (some .long)) (by decide) rfl ?_
  intro p e s m args below meth c s₁ B hml hv
  obtain ⟨rfl, hP, hK⟩ := hv
  have hx := B.exec
  have hb := B.bytes
  have hr := B.returns
  have hts := atoms_spec (ws := wsXP_othersTogether) B.pre
  have hown : s.vm.findClass "ParityArray" = some m.cls := findClass_of_methodNamed B.named
  have hlocks := B.notSynchronized
  have hS : va_S (fun _ => False) s.heap s.heap [] := va_S.rf
  have hl := lv_entry ([.ref (pz_ax a), .int (nI d0), .int (nI s0), .int (nI i0)]) (n := 7) (Nat.le_of_ble_eq_true rfl)
  rw [lg_entry_eq]
  generalize (lg_sl ([.ref (pz_ax a), .int (nI d0), .int (nI s0), .int (nI i0)]) ++ List.replicate (7 - (lg_sl ([.ref (pz_ax a), .int (nI d0), .int (nI s0), .int (nI i0)])).length) Slot.unset).toArray = ls at hl ⊢
  have hl : lv_has ls 7 [(0, .ref (pz_ax a)), (1, .int (nI d0)), (2, .int (nI s0)), (3, .int (nI i0))] := hl
  have hP : va_P (dC, dI) vwCl (pz_XW a cJ cD dk su bl pt py) s.heap := hP
  refine lv_lconst (v := 0) hx hb dXP_othersTogether_0 (by decide) ?_
  refine lv_lstore hx hb dXP_othersTogether_1 hl (by decide) rfl (fun ls hl => ?_)
  have hl : lv_has ls 7 [(4, .long 0), (0, .ref (pz_ax a)), (1, .int (nI d0)), (2, .int (nI s0)), (3, .int (nI i0))] := hl
  refine lv_iconst (v := nI 0) hx hb dXP_othersTogether_3 (by decide) ?_
  refine lv_istore hx hb dXP_othersTogether_4 hl (by decide) rfl (fun ls hl => ?_)
  have hl : lv_has ls 7 [(6, .int (nI 0)), (4, .long 0), (0, .ref (pz_ax a)), (1, .int (nI d0)), (2, .int (nI s0)), (3, .int (nI i0))] := hl
  have hl : lv_has ls 7 [(6, .int (nI 0)), (4, .long (pz_oth (fun e => pz_R (dk e) (16 * s0 + i0)) d0 0)), (0, .ref (pz_ax a)), (1, .int (nI d0)), (2, .int (nI s0)), (3, .int (nI i0))] := hl
  refine pz_loop (fun _ => 0) (fun _ => 0) 5 (fun k ls H locs => lv_has ls 7 [(6, .int (nI k)), (4, .long (pz_oth (fun e => pz_R (dk e) (16 * s0 + i0)) d0 k)), (0, .ref (pz_ax a)), (1, .int (nI d0)), (2, .int (nI s0)), (3, .int (nI i0))] ∧ va_P (dC, dI) vwCl (pz_XW a cJ cD dk su bl pt py) H ∧ va_S (fun _ => False) s.heap H locs) ?_ ?_ 5 0 (by omega) _ _ _ ⟨hl, hP, hS⟩
  · intro k ls H locs hk hI ih
    obtain ⟨hl, hP, hS⟩ := hI
    refine lv_iload hx hb dXP_othersTogether_6 (lv_at hl 0 rfl) ?_
    refine lv_iconst (v := nI 5) hx hb dXP_othersTogether_8 (by decide) ?_
    refine lv_icmp_ge (tgt := 41) hx hb dXP_othersTogether_9 (by decide) (fun hc => absurd hc (nI_ge hk (by decide))) (fun _ => ?_)
    refine lv_iload hx hb dXP_othersTogether_12 (lv_at hl 0 rfl) ?_
    refine lv_iload_n hx hb dXP_othersTogether_14 rfl (lv_at hl 3 rfl) ?_
    refine lv_icmp_eq (tgt := 35) hx hb dXP_othersTogether_15 (by decide) (fun hc => ?_) (fun hc => ?_)
    · have hc : k = d0 := (nI_eq (a := k) (b := d0) (by omega) (by omega)).mp hc
      have e9 : pz_oth (fun e => pz_R (dk e) (16 * s0 + i0)) d0 k = pz_oth (fun e => pz_R (dk e) (16 * s0 + i0)) d0 (k + 1) := by show _ = (if k = d0 then _ else _); rw [if_pos hc]
      rw [e9] at hl
      refine lv_iinc (k := 0) (v := nI (k + 1)) hx hb dXP_othersTogether_35 hl rfl (by rw [nI_succ]; rfl) (by decide) rfl (fun ls hl => ?_)
      have hl : lv_has ls 7 [(6, .int (nI (k + 1))), (4, .long (pz_oth (fun e => pz_R (dk e) (16 * s0 + i0)) d0 (k + 1))), (0, .ref (pz_ax a)), (1, .int (nI d0)), (2, .int (nI s0)), (3, .int (nI i0))] := hl
      refine lv_goto (tgt := 6) hx hb dXP_othersTogether_38 (by decide) ?_
      exact ih _ _ _ ⟨hl, hP, hS⟩
    · have hc : ¬ k = d0 := fun h9 => hc ((nI_eq (a := k) (b := d0) (by omega) (by omega)).mpr h9)
      refine lv_lload hx hb dXP_othersTogether_18 (lv_at hl 1 rfl) ?_
      refine lv_aload_n hx hb dXP_othersTogether_20 rfl (lv_at hl 2 rfl) ?_
      refine va_get (D := (dC, dI)) (ci := 2) (v := .ref (pz_ad a)) (C := "ParityArray") (T := TXP) (N := 5) hx hb hts (fun w h => List.mem_cons_of_mem _ (inXP w h)) hown hK hP 0 rfl rfl 0 (by decide) (hts _ (List.mem_cons_of_mem _ tw_80)) (fun _ h9 => h9) rfl dXP_othersTogether_21 ?_
      refine lv_iload hx hb dXP_othersTogether_24 (lv_at hl 0 rfl) ?_
      refine pz_ald hx hb hK hP 1 rfl hk dXP_othersTogether_26 ?_
      refine lv_iload_n hx hb dXP_othersTogether_27 rfl (lv_at hl 4 rfl) ?_
      refine lv_iload_n hx hb dXP_othersTogether_28 rfl (lv_at hl 5 rfl) ?_
      refine va_calll (va_runV (As := [.int (nI s0), .int (nI i0)]) (rest := [.long (pz_oth (fun e => pz_R (dk e) (16 * s0 + i0)) d0 k)]) ⟨hx, hb, hml, hown, hts⟩ (c_XD_longAt l dC dI _ _ _ cJ (dk k) s0 i0 hs0 hi0) (cwV 2 hts (pz_gc (List.mem_cons_of_mem _ tw_211) rfl (pz_gc (List.mem_cons_of_mem _ tw_212) rfl (pz_gc (List.mem_cons_of_mem _ tw_213) rfl (pz_gc (List.mem_cons_of_mem _ tw_3) rfl (pz_gi tcXD_longAt))))) rfl rfl rfl (by decide +kernel) ⟨Nat.le_of_ble_eq_true rfl, Nat.le_of_ble_eq_true rfl⟩) (pz_preV (va_recv hK (pz_Xd_P (d := k) hk hP) (q0 := 0) rfl rfl) (pz_Xd_P (d := k) hk hP) (hK.sub [0] rfl)) rfl rfl hl.1 rfl (lv_room (Nat.le_of_ble_eq_true rfl)) dXP_othersTogether_29 ⟨Nat.zero_le _, Nat.zero_le _⟩) hS (fun q _ h => h.elim) (fun q h => h.elim) (fun r u t H locs ht hvm hw _ hz hk9 hS => ?_)
      have hP := pz_keep hP hk9
      clear hk9 hz ht hvm
      subst hw
      refine lv_lxor hx hb dXP_othersTogether_32 ?_
      refine lv_topl (nm_r (show pz_oth (fun e => pz_R (dk e) (16 * s0 + i0)) d0 k ^^^ pz_R (dk k) (16 * s0 + i0) = pz_oth (fun e => pz_R (dk e) (16 * s0 + i0)) d0 (k + 1) from by show _ = (if k = d0 then _ else _); rw [if_neg hc]) ?_)
      refine lv_lstore hx hb dXP_othersTogether_33 hl (by decide) rfl (fun ls hl => ?_)
      have hl : lv_has ls 7 [(4, .long (pz_oth (fun e => pz_R (dk e) (16 * s0 + i0)) d0 (k + 1))), (6, .int (nI k)), (0, .ref (pz_ax a)), (1, .int (nI d0)), (2, .int (nI s0)), (3, .int (nI i0))] := hl
      refine lv_iinc (k := 1) (v := nI (k + 1)) hx hb dXP_othersTogether_35 hl rfl (by rw [nI_succ]; rfl) (by decide) rfl (fun ls hl => ?_)
      have hl : lv_has ls 7 [(6, .int (nI (k + 1))), (4, .long (pz_oth (fun e => pz_R (dk e) (16 * s0 + i0)) d0 (k + 1))), (0, .ref (pz_ax a)), (1, .int (nI d0)), (2, .int (nI s0)), (3, .int (nI i0))] := hl
      refine lv_goto (tgt := 6) hx hb dXP_othersTogether_38 (by decide) ?_
      exact ih _ _ _ ⟨hl, hP, hS⟩
  · intro ls H locs hI
    obtain ⟨hl, hP, hS⟩ := hI
    refine lv_iload hx hb dXP_othersTogether_6 (lv_at hl 0 rfl) ?_
    refine lv_iconst (v := nI 5) hx hb dXP_othersTogether_8 (by decide) ?_
    refine lv_icmp_ge (tgt := 41) hx hb dXP_othersTogether_9 (by decide) (fun _ => ?_) (fun hc => absurd hc (fun h9 => h9 (nI_le (Nat.le_refl 5) (by decide))))
    refine lv_lload hx hb dXP_othersTogether_41 (lv_at hl 1 rfl) ?_
    exact W.lret (v := pz_oth (fun e => pz_R (dk e) (16 * s0 + i0)) d0 5) hx hb hr (fun t ht hW => ⟨⟨_, (), rfl, rfl, trivial⟩, hS.F ht⟩) hS.2.2 dXP_othersTogether_43

set_option maxHeartbeats 4000000 in
set_option maxRecDepth 100000 in
/-- a long, read or put together -/
theorem c_XP_readLong (l : Launch) (dC : Nat → ClassId) (dI : Nat → Nat → Nat) (a : pz_Ad) (cJ cD : ClassId) (dk : Nat → pz_Dk) (su : pz_Su) (bl pt py : Nat → Int64) (n0 i0 : Nat) (hth : ∀ d, d < 5 → pz_th (dk d) ≤ 150) (hn0 : n0 < 600) (hi0 : i0 < 16) : Met l yXP_readLong wsXP_readLong ({ frames := 2, cells := 0, slots := 0, locals := 48 }) (va_Pc [.ref (pz_ax a), .int (nI n0), .int (nI i0)] (fun U => va_P (dC, dI) vwCl (pz_XW a cJ cD dk su bl pt py) U.heap ∧ va_K (dC, dI) vwCl [(cJ, .long), (cD, .object "ParityArray$Disk")] U)) (va_Ql (fun (r : Int64) (u : Unit) => r = pz_rl dk n0 i0) (fun _ _ => True) (fun _ => False)) 0 0 (fun _ => False) := by
  refine Met.ofW (cc := cXP_readLong) (maxL := 5) (ret := (some .long)) (by decide) rfl ?_
  intro p e s m args below meth c s₁ B hml hv
  obtain ⟨rfl, hP, hK⟩ := hv
  have hx := B.exec
  have hb := B.bytes
  have hr := B.returns
  have hts := atoms_spec (ws := wsXP_readLong) B.pre
  have hown : s.vm.findClass "ParityArray" = some m.cls := findClass_of_methodNamed B.named
  have hlocks := B.notSynchronized
  have hS : va_S (fun _ => False) s.heap s.heap [] := va_S.rf
  have hl := lv_entry ([.ref (pz_ax a), .int (nI n0), .int (nI i0)]) (n := 5) (Nat.le_of_ble_eq_true rfl)
  rw [lg_entry_eq]
  generalize (lg_sl ([.ref (pz_ax a), .int (nI n0), .int (nI i0)]) ++ List.replicate (5 - (lg_sl ([.ref (pz_ax a), .int (nI n0), .int (nI i0)])).length) Slot.unset).toArray = ls at hl ⊢
  have hl : lv_has ls 5 [(0, .ref (pz_ax a)), (1, .int (nI n0)), (2, .int (nI i0))] := hl
  have hP : va_P (dC, dI) vwCl (pz_XW a cJ cD dk su bl pt py) s.heap := hP
  refine lv_iload_n hx hb dXP_readLong_0 rfl (lv_at hl 1 rfl) ?_
  refine va_calli (va_runS (As := [.int (nI n0)]) (rest := []) ⟨hx, hb, hml, hown, hts⟩ (c_XP_stripeOf l n0 hn0) (va_cwS 1 hts (pz_gc (List.mem_cons_of_mem _ tw_198) rfl (pz_gc (List.mem_cons_of_mem _ tw_199) rfl (pz_gc (List.mem_cons_of_mem _ tw_1) rfl (pz_gi tcXP_stripeOf)))) rfl rfl rfl (by decide +kernel) ⟨Nat.le_of_ble_eq_true rfl, Nat.le_of_ble_eq_true rfl⟩) pz_preS0 rfl rfl hl.1 rfl (lv_room (Nat.le_of_ble_eq_true rfl)) dXP_readLong_1 ⟨Nat.zero_le _, Nat.zero_le _⟩) hS (fun q _ h => h.elim) (fun q h => h.elim) (fun r u t H locs ht hvm hw _ hz hk9 hS => ?_)
  have hP := pz_keep hP hk9
  clear hk9 hz ht hvm
  subst hw
  refine lv_istore_n hx hb dXP_readLong_4 rfl hl (by decide) rfl (fun ls hl => ?_)
  have hl : lv_has ls 5 [(3, .int (nI (n0 / 4))), (0, .ref (pz_ax a)), (1, .int (nI n0)), (2, .int (nI i0))] := hl
  refine lv_iload_n hx hb dXP_readLong_5 rfl (lv_at hl 2 rfl) ?_
  refine va_calli (va_runS (As := [.int (nI n0)]) (rest := []) ⟨hx, hb, hml, hown, hts⟩ (c_XP_diskOf l n0 hn0) (va_cwS 1 hts (pz_gc (List.mem_cons_of_mem _ tw_201) rfl (pz_gc (List.mem_cons_of_mem _ tw_202) rfl (pz_gc (List.mem_cons_of_mem _ tw_1) rfl (pz_gi tcXP_diskOf)))) rfl rfl rfl (by decide +kernel) ⟨Nat.le_of_ble_eq_true rfl, Nat.le_of_ble_eq_true rfl⟩) pz_preS0 rfl rfl hl.1 rfl (lv_room (Nat.le_of_ble_eq_true rfl)) dXP_readLong_6 ⟨Nat.zero_le _, Nat.zero_le _⟩) hS (fun q _ h => h.elim) (fun q h => h.elim) (fun r u t H locs ht hvm hw _ hz hk9 hS => ?_)
  have hP := pz_keep hP hk9
  clear hk9 hz ht hvm
  subst hw
  refine lv_istore hx hb dXP_readLong_9 hl (by decide) rfl (fun ls hl => ?_)
  have hl : lv_has ls 5 [(4, .int (nI (pz_dn n0))), (3, .int (nI (n0 / 4))), (0, .ref (pz_ax a)), (1, .int (nI n0)), (2, .int (nI i0))] := hl
  refine lv_aload_n hx hb dXP_readLong_11 rfl (lv_at hl 2 rfl) ?_
  refine va_get (D := (dC, dI)) (ci := 2) (v := .ref (pz_ad a)) (C := "ParityArray") (T := TXP) (N := 5) hx hb hts (fun w h => List.mem_cons_of_mem _ (inXP w h)) hown hK hP 0 rfl rfl 0 (by decide) (hts _ (List.mem_cons_of_mem _ tw_80)) (fun _ h9 => h9) rfl dXP_readLong_12 ?_
  refine lv_iload hx hb dXP_readLong_15 (lv_at hl 0 rfl) ?_
  refine pz_ald hx hb hK hP 1 rfl (pz_dn_lt n0) dXP_readLong_17 ?_
  refine lv_iload_n hx hb dXP_readLong_18 rfl (lv_at hl 1 rfl) ?_
  refine va_calli (va_runV (As := [.int (nI (n0 / 4))]) (rest := []) ⟨hx, hb, hml, hown, hts⟩ (c_XD_isThere l dC dI _ _ _ cJ (dk (pz_dn n0)) (n0 / 4) (hth _ (pz_dn_lt n0)) (by omega)) (cwV 1 hts (pz_gc (List.mem_cons_of_mem _ tw_207) rfl (pz_gc (List.mem_cons_of_mem _ tw_208) rfl (pz_gc (List.mem_cons_of_mem _ tw_209) rfl (pz_gc (List.mem_cons_of_mem _ tw_3) rfl (pz_gi tcXD_isThere))))) rfl rfl rfl (by decide +kernel) ⟨Nat.le_of_ble_eq_true rfl, Nat.le_of_ble_eq_true rfl⟩) (pz_preV (va_recv hK (pz_Xd_P (d := (pz_dn n0)) (pz_dn_lt n0) hP) (q0 := 0) rfl rfl) (pz_Xd_P (d := (pz_dn n0)) (pz_dn_lt n0) hP) (hK.sub [0] rfl)) rfl rfl hl.1 rfl (lv_room (Nat.le_of_ble_eq_true rfl)) dXP_readLong_19 ⟨Nat.zero_le _, Nat.zero_le _⟩) hS (fun q _ h => h.elim) (fun q h => h.elim) (fun r u t H locs ht hvm hw _ hz hk9 hS => ?_)
  have hP := pz_keep hP hk9
  clear hk9 hz ht hvm
  subst hw
  refine lv_if_eq (tgt := 40) hx hb dXP_readLong_22 (by decide) (fun hc => ?_) (fun hc => ?_)
  · have hc : (decide (n0 / 4 < pz_th (dk (pz_dn n0)))) = false := pz_b0.mp hc
    have hc := of_decide_eq_false hc
    refine lv_aload_n hx hb dXP_readLong_40 rfl (lv_at hl 2 rfl) ?_
    refine lv_iload hx hb dXP_readLong_41 (lv_at hl 0 rfl) ?_
    refine lv_iload_n hx hb dXP_readLong_43 rfl (lv_at hl 1 rfl) ?_
    refine lv_iload_n hx hb dXP_readLong_44 rfl (lv_at hl 4 rfl) ?_
    refine va_calll (va_runV (As := [.int (nI (pz_dn n0)), .int (nI (n0 / 4)), .int (nI i0)]) (rest := []) ⟨hx, hb, hml, hown, hts⟩ (c_XP_othersTogether l dC dI a cJ cD dk su bl pt py (pz_dn n0) (n0 / 4) i0 hth (pz_dn_lt n0) (by omega) hi0) (cwV 3 hts (pz_gc (List.mem_cons_of_mem _ tw_215) rfl (pz_gc (List.mem_cons_of_mem _ tw_217) rfl (pz_gc (List.mem_cons_of_mem _ ts_2) rfl (pz_gc (List.mem_cons_of_mem _ tw_1) rfl (pz_gi tcXP_othersTogether))))) rfl rfl rfl (by decide +kernel) ⟨Nat.le_of_ble_eq_true rfl, Nat.le_of_ble_eq_true rfl⟩) (pz_preV (va_recv hK hP (q0 := 0) rfl rfl) hP hK) rfl rfl hl.1 rfl (lv_room (Nat.le_of_ble_eq_true rfl)) dXP_readLong_45 ⟨Nat.zero_le _, Nat.zero_le _⟩) hS (fun q _ h => h.elim) (fun q h => h.elim) (fun r u t H locs ht hvm hw _ hz hk9 hS => ?_)
    have hP := pz_keep hP hk9
    clear hk9 hz ht hvm
    subst hw
    exact W.lret (v := pz_oth (fun e => pz_R (dk e) (16 * (n0 / 4) + i0)) (pz_dn n0) 5) hx hb hr (fun t ht hW => ⟨⟨_, (), rfl, by unfold pz_rl; rw [if_neg hc], trivial⟩, hS.F ht⟩) hS.2.2 dXP_readLong_48
  · have hc : (decide (n0 / 4 < pz_th (dk (pz_dn n0)))) = true := pz_bn hc
    have hc := of_decide_eq_true hc
    refine lv_aload_n hx hb dXP_readLong_25 rfl (lv_at hl 2 rfl) ?_
    refine va_get (D := (dC, dI)) (ci := 2) (v := .ref (pz_ad a)) (C := "ParityArray") (T := TXP) (N := 5) hx hb hts (fun w h => List.mem_cons_of_mem _ (inXP w h)) hown hK hP 0 rfl rfl 0 (by decide) (hts _ (List.mem_cons_of_mem _ tw_80)) (fun _ h9 => h9) rfl dXP_readLong_26 ?_
    refine lv_iload hx hb dXP_readLong_29 (lv_at hl 0 rfl) ?_
    refine pz_ald hx hb hK hP 1 rfl (pz_dn_lt n0) dXP_readLong_31 ?_
    refine lv_iload_n hx hb dXP_readLong_32 rfl (lv_at hl 1 rfl) ?_
    refine lv_iload_n hx hb dXP_readLong_33 rfl (lv_at hl 4 rfl) ?_
    refine va_calll (va_runV (As := [.int (nI (n0 / 4)), .int (nI i0)]) (rest := []) ⟨hx, hb, hml, hown, hts⟩ (c_XD_longAt l dC dI _ _ _ cJ (dk (pz_dn n0)) (n0 / 4) i0 (by omega) hi0) (cwV 2 hts (pz_gc (List.mem_cons_of_mem _ tw_211) rfl (pz_gc (List.mem_cons_of_mem _ tw_212) rfl (pz_gc (List.mem_cons_of_mem _ tw_213) rfl (pz_gc (List.mem_cons_of_mem _ tw_3) rfl (pz_gi tcXD_longAt))))) rfl rfl rfl (by decide +kernel) ⟨Nat.le_of_ble_eq_true rfl, Nat.le_of_ble_eq_true rfl⟩) (pz_preV (va_recv hK (pz_Xd_P (d := (pz_dn n0)) (pz_dn_lt n0) hP) (q0 := 0) rfl rfl) (pz_Xd_P (d := (pz_dn n0)) (pz_dn_lt n0) hP) (hK.sub [0] rfl)) rfl rfl hl.1 rfl (lv_room (Nat.le_of_ble_eq_true rfl)) dXP_readLong_34 ⟨Nat.zero_le _, Nat.zero_le _⟩) hS (fun q _ h => h.elim) (fun q h => h.elim) (fun r u t H locs ht hvm hw _ hz hk9 hS => ?_)
    have hP := pz_keep hP hk9
    clear hk9 hz ht hvm
    subst hw
    refine lv_goto (tgt := 48) hx hb dXP_readLong_37 (by decide) ?_
    exact W.lret (v := pz_R (dk (pz_dn n0)) (16 * (n0 / 4) + i0)) hx hb hr (fun t ht hW => ⟨⟨_, (), rfl, by unfold pz_rl; rw [if_pos hc], trivial⟩, hS.F ht⟩) hS.2.2 dXP_readLong_48

