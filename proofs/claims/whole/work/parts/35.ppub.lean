/-! ParityArray: what its calls throw (laid by a program) -/
def pz_strs : List (Nat × String) := [(39, "power is off"), (50, "no such block or long"), (74, "power failed"), (77, "no such disk"), (83, "a disk is not well"), (91, "no disk is dead"), (93, "no disk is new"), (105, "no such write"), (108, "no such byte"), (121, "nothing to tell")]
def pz_SR (sa : Nat → Nat) (U : State) : Prop := ∀ (i : Nat) (q : Nat × String), pz_strs[i]? = some q → vk_R "ParityArray" q.1 q.2 (sa i) U
theorem pz_SR.warm {sa : Nat → Nat} {s U : State} (hW : s.WarmedH U.vm) (h : pz_SR sa s) : pz_SR sa U := fun i q hq => vk_R.warm hW (h i q hq)
theorem pz_SR.same {sa : Nat → Nat} {u U : State} (hv : U.vm = u.vm) (h : pz_SR sa u) : pz_SR sa U := fun i q hq => vk_R.same hv (h i q hq)
def pz_ZS (A : Nat → Prop) (U : State) (H : Heap) : Prop := vx_Zq Bundle.tN "UNASSIGNED_STACK" Bundle.steD A U H ∧ vx_Zq Bundle.tN "SUPPRESSED_SENTINEL" Bundle.listD A U H
theorem pz_ZS.moved {A : Nat → Prop} {u U : State} {H : Heap} (hvm : u.vm.Alike U.vm) (h : pz_ZS A u H) : pz_ZS A U H := ⟨h.1.moved hvm, h.2.moved hvm⟩
theorem pz_ZS.kept {A : Nat → Prop} {U : State} {H H1 : Heap} (h : pz_ZS A U H) (hq : ∀ a : Nat, a < H.size → ¬ A a → H1[a]? = H[a]?) : pz_ZS A U H1 := ⟨h.1.kept hq, h.2.kept hq⟩
theorem pz_ZS.narrow {A B : Nat → Prop} {U : State} {H : Heap} (h : pz_ZS A U H) (hAB : ∀ q, B q → A q) : pz_ZS B U H := ⟨h.1.narrow hAB, h.2.narrow hAB⟩
theorem pz_nws_on : ∀ w ∈ pz_nws, w.onTables = true := by decide +kernel
abbrev pz_St : Type := (Nat → pz_Dk) × pz_Su × (Nat → Int64) × (Nat → Int64) × (Nat → Int64)
theorem pz_thF {A : Nat → Prop} {s t : State} {H : Heap} {locs : List Loc} (hS : va_S A s.heap H locs) (h1 : H.size ≤ t.heap.size) (h2 : ∀ q : Nat, q < H.size → t.heap[q]? = H[q]?) : va_F A s t :=
  ⟨Nat.le_trans hS.1 h1, fun q hq hn => (h2 q (Nat.lt_of_lt_of_le hq hS.1)).trans (hS.2.1 q hq hn)⟩
theorem pz_W_F {A : Nat → Prop} {ws : va_W} {H0 H : Heap} {locs : List Loc} (hD : va_D A ws) (hS : va_S A H0 H locs) (hA : ∀ q, H0.size ≤ q → A q) : ∀ q, va_A ws H.size q → A q := fun q h => h.elim (fun ⟨k, e, hk⟩ => hD.2 k (q, e) hk) (fun h => hA q (Nat.le_trans hS.1 h))
theorem pz_W_J {A B : Nat → Prop} {D : va_G} {cl : List vw_C} {w1 : va_W} {H1 : Heap} (hP1 : va_P D cl w1 H1) (hF : ∀ q, B q → A q) (hD1 : va_D B w1) : va_P D cl w1 H1 ∧ va_D A w1 := ⟨hP1, hD1.weaken fun _ q _ h => hF q.1 h⟩
theorem pz_K_same {A B : Prop} (h : A) (_ : B) : A := h
set_option maxRecDepth 20000 in
theorem gm_41 : ∀ w ∈ (vx_atS "ParityArray" 41 "java/lang/IllegalStateException" ["java/lang/RuntimeException", "java/lang/Exception"]).filter goodWord, w ∈ pz_G := by decide +kernel
set_option maxRecDepth 20000 in
theorem bm_41 : ∀ w ∈ (vx_atS "ParityArray" 41 "java/lang/IllegalStateException" ["java/lang/RuntimeException", "java/lang/Exception"]).filter (fun w => !goodWord w), w ∈ pz_nws := by decide +kernel
set_option maxRecDepth 20000 in
theorem ok_41 : ∀ w ∈ Cond.classLink "ParityArray" 37 "java/lang/IllegalStateException" :: Cond.initialized "java/lang/IllegalStateException" :: vx_atS "ParityArray" 41 "java/lang/IllegalStateException" ["java/lang/RuntimeException", "java/lang/Exception"], vx_ot w = true := by decide +kernel
set_option maxRecDepth 20000 in
theorem gm_52 : ∀ w ∈ (vx_atS "ParityArray" 52 "java/lang/IndexOutOfBoundsException" ["java/lang/RuntimeException", "java/lang/Exception"]).filter goodWord, w ∈ pz_G := by decide +kernel
set_option maxRecDepth 20000 in
theorem bm_52 : ∀ w ∈ (vx_atS "ParityArray" 52 "java/lang/IndexOutOfBoundsException" ["java/lang/RuntimeException", "java/lang/Exception"]).filter (fun w => !goodWord w), w ∈ pz_nws := by decide +kernel
set_option maxRecDepth 20000 in
theorem ok_52 : ∀ w ∈ Cond.classLink "ParityArray" 48 "java/lang/IndexOutOfBoundsException" :: Cond.initialized "java/lang/IndexOutOfBoundsException" :: vx_atS "ParityArray" 52 "java/lang/IndexOutOfBoundsException" ["java/lang/RuntimeException", "java/lang/Exception"], vx_ot w = true := by decide +kernel
set_option maxRecDepth 20000 in
theorem gm_76 : ∀ w ∈ (vx_atS "ParityArray" 76 "java/lang/ArithmeticException" ["java/lang/RuntimeException", "java/lang/Exception"]).filter goodWord, w ∈ pz_G := by decide +kernel
set_option maxRecDepth 20000 in
theorem bm_76 : ∀ w ∈ (vx_atS "ParityArray" 76 "java/lang/ArithmeticException" ["java/lang/RuntimeException", "java/lang/Exception"]).filter (fun w => !goodWord w), w ∈ pz_nws := by decide +kernel
set_option maxRecDepth 20000 in
theorem ok_76 : ∀ w ∈ Cond.classLink "ParityArray" 72 "java/lang/ArithmeticException" :: Cond.initialized "java/lang/ArithmeticException" :: vx_atS "ParityArray" 76 "java/lang/ArithmeticException" ["java/lang/RuntimeException", "java/lang/Exception"], vx_ot w = true := by decide +kernel
set_option maxRecDepth 20000 in
theorem gm_107 : ∀ w ∈ (vx_atS "ParityArray" 107 "java/lang/IllegalArgumentException" ["java/lang/RuntimeException", "java/lang/Exception"]).filter goodWord, w ∈ pz_G := by decide +kernel
set_option maxRecDepth 20000 in
theorem bm_107 : ∀ w ∈ (vx_atS "ParityArray" 107 "java/lang/IllegalArgumentException" ["java/lang/RuntimeException", "java/lang/Exception"]).filter (fun w => !goodWord w), w ∈ pz_nws := by decide +kernel
set_option maxRecDepth 20000 in
theorem ok_107 : ∀ w ∈ Cond.classLink "ParityArray" 103 "java/lang/IllegalArgumentException" :: Cond.initialized "java/lang/IllegalArgumentException" :: vx_atS "ParityArray" 107 "java/lang/IllegalArgumentException" ["java/lang/RuntimeException", "java/lang/Exception"], vx_ot w = true := by decide +kernel
def pz_EX_XP_get : Nat → String := fun k => match k with
  | 1 => "java/lang/IllegalStateException"
  | _ => "java/lang/IndexOutOfBoundsException"
set_option maxHeartbeats 4000000 in
set_option maxRecDepth 100000 in
/-- get -/
theorem c_XP_get (l : Launch) (hl0 : l.stackTraces = false) (dC : Nat → ClassId) (dI : Nat → Nat → Nat) (sz : Nat) (a : pz_Ad) (cJ cD : ClassId) (dk : Nat → pz_Dk) (su : pz_Su) (bl pt py : Nat → Int64) (sa : Nat → Nat) (x : pz_Mu) (n i : Int32) (hI : pz_Inv dk su x) : vx_Met l yXP_get wsXP_get ({ frames := 6, cells := 1, slots := 6, locals := 90 }) (va_Pc [.ref (pz_ax a), .int n, .int i] (fun U => U.heap.size = sz ∧ va_P (dC, dI) vwCl (pz_XW a cJ cD dk su bl pt py) U.heap ∧ va_K (dC, dI) vwCl [(cJ, .long), (cD, .object "ParityArray$Disk")] U ∧ va_D (fun _ => True) (pz_XW a cJ cD dk su bl pt py) ∧ pz_NW U ∧ pz_SR sa U ∧ pz_ZS (va_A (pz_XW a cJ cD dk su bl pt py) sz) U U.heap)) (va_Ql (fun (r : Int64) (u : pz_St) => (r, 0) = pz_gG x n i ∧ pz_Inv u.1 u.2.1 x) (fun u t => va_P (dC, dI) vwCl (pz_XW a cJ cD u.1 u.2.1 u.2.2.1 u.2.2.2.1 u.2.2.2.2) t.heap ∧ va_K (dC, dI) vwCl [(cJ, .long), (cD, .object "ParityArray$Disk")] t ∧ va_D (va_A (pz_XW a cJ cD dk su bl pt py) sz) (pz_XW a cJ cD u.1 u.2.1 u.2.2.1 u.2.2.2.1 u.2.2.2.2)) (va_A (pz_XW a cJ cD dk su bl pt py) sz)) (vx_X (fun u : pz_St × Nat => ((pz_gG x n i).2 = u.2 ∧ pz_Inv u.1.1 u.1.2.1 x) ∧ u.2 ≠ 0) (fun E u t => E = pz_EX_XP_get u.2 ∧ va_P (dC, dI) vwCl (pz_XW a cJ cD u.1.1 u.1.2.1 u.1.2.2.1 u.1.2.2.2.1 u.1.2.2.2.2) t.heap ∧ va_K (dC, dI) vwCl [(cJ, .long), (cD, .object "ParityArray$Disk")] t ∧ va_D (va_A (pz_XW a cJ cD dk su bl pt py) sz) (pz_XW a cJ cD u.1.1 u.1.2.1 u.1.2.2.1 u.1.2.2.2.1 u.1.2.2.2.2)) (va_A (pz_XW a cJ cD dk su bl pt py) sz)) 1 6 (va_A (pz_XW a cJ cD dk su bl pt py) sz) := by
  refine vx_ofW (cc := cXP_get) (maxL := 3) (ret := (some .long)) (by decide) rfl ?_
  intro p e s m args below meth c s₁ B hml hnt hv
  obtain ⟨rfl, hsz, hP, hK, hD0, hNW, hSR, hZ⟩ := hv
  have hx := B.exec
  have hb := B.bytes
  have hr := B.returns
  have hts := atoms_spec (ws := wsXP_get) B.pre
  have hown : s.vm.findClass "ParityArray" = some m.cls := findClass_of_methodNamed B.named
  have hlocks := B.notSynchronized
  subst hsz
  have hD := hD0.self (sz := s.heap.size)
  generalize hAe : va_A (pz_XW a cJ cD dk su bl pt py) s.heap.size = A at hD hZ ⊢
  have hA : ∀ q : Nat, s.heap.size ≤ q → A q := fun q h => by rw [← hAe]; exact Or.inr h
  have hS : va_S A s.heap s.heap [] := va_S.rf
  have hl := lv_entry ([.ref (pz_ax a), .int n, .int i]) (n := 3) (Nat.le_of_ble_eq_true rfl)
  rw [lg_entry_eq]
  generalize (lg_sl ([.ref (pz_ax a), .int n, .int i]) ++ List.replicate (3 - (lg_sl ([.ref (pz_ax a), .int n, .int i])).length) Slot.unset).toArray = ls at hl ⊢
  have hl : lv_has ls 3 [(0, .ref (pz_ax a)), (1, .int n), (2, .int i)] := hl
  have hth : ∀ d, d < 5 → pz_th (dk d) ≤ 150 := fun d h9 => hI.2.1.th h9
  have hon9 : pz_on su = pz_mo x := hI.2.2.1
  obtain ⟨hcw, hcb⟩ := hI.2.2.b
  refine lv_aload_n hx hb dXP_get_0 rfl (lv_at hl 0 rfl) ?_
  refine va_get (D := (dC, dI)) (ci := 2) (v := .ref (pz_as a)) (C := "ParityArray") (T := TXP) (N := 5) hx hb hts (fun w h => List.mem_cons_of_mem _ (inXP w h)) hown hK hP 0 rfl rfl 1 (by decide) (hts _ (List.mem_cons_of_mem _ tw_81)) (fun _ h9 => h9) rfl dXP_get_1 ?_
  refine va_getN (D := (dC, dI)) (ci := 1) (v := .int (pz_b (pz_on su))) (C := "ParityArray$Supply") (T := TXS) (N := 7) hx hb hts (fun w h => List.mem_cons_of_mem _ (inXS w h)) hown hK hP 2 rfl rfl 0 (by decide) (va_Nw.use rfl (hNW _ (List.mem_of_getElem? (i := 1) rfl))) (fun _ h9 => h9) rfl dXP_get_4 ?_
  refine lv_if_ne (tgt := 20) hx hb dXP_get_7 (by decide) (fun hc => ?_) (fun hc => ?_)
  · have hc : (pz_on su) = true := pz_bn hc
    have hmo : pz_mo x = true := hon9 ▸ hc
    refine lv_iload_n hx hb dXP_get_20 rfl (lv_at hl 1 rfl) ?_
    refine lv_iload_n hx hb dXP_get_21 rfl (lv_at hl 2 rfl) ?_
    refine va_calli (va_runS (As := [.int n, .int i]) (rest := []) ⟨hx, hb, hml, hown, hts⟩ (c_XP_isLong l n i) (va_cwS 2 hts (pz_gc (List.mem_cons_of_mem _ tw_175) rfl (pz_gc (List.mem_cons_of_mem _ tw_176) rfl (pz_gc (List.mem_cons_of_mem _ tw_1) rfl (pz_gi tcXP_isLong)))) rfl rfl rfl (by decide +kernel) ⟨Nat.le_of_ble_eq_true rfl, Nat.le_of_ble_eq_true rfl⟩) pz_preS0 rfl rfl hl.1 rfl (lv_room (Nat.le_of_ble_eq_true rfl)) dXP_get_22 ⟨Nat.zero_le _, Nat.zero_le _⟩) hS (fun q _ h => h.elim) (fun q h => h.elim) (fun r u t H locs ht hvm hw _ hz hk9 hS => ?_)
    have hP := pz_keep hP hk9
    clear hk9 hz ht hvm
    subst hw
    refine lv_if_ne (tgt := 38) hx hb dXP_get_25 (by decide) (fun hc => ?_) (fun hc => ?_)
    · have hc : (pz_isL n i) = true := pz_bn hc
      obtain ⟨n0, i0, hn0, hi0, rfl, rfl⟩ := pz_isL_of hc
      refine lv_aload_n hx hb dXP_get_38 rfl (lv_at hl 0 rfl) ?_
      refine lv_iload_n hx hb dXP_get_39 rfl (lv_at hl 1 rfl) ?_
      refine lv_iload_n hx hb dXP_get_40 rfl (lv_at hl 2 rfl) ?_
      refine va_calll (va_runV (As := [.int (nI n0), .int (nI i0)]) (rest := []) ⟨hx, hb, hml, hown, hts⟩ (c_XP_readLong l dC dI a cJ cD dk su bl pt py n0 i0 hth hn0 hi0) (cwV 2 hts (pz_gc (List.mem_cons_of_mem _ tw_194) rfl (pz_gc (List.mem_cons_of_mem _ tw_196) rfl (pz_gc (List.mem_cons_of_mem _ ts_1) rfl (pz_gc (List.mem_cons_of_mem _ tw_1) rfl (pz_gi tcXP_readLong))))) rfl rfl rfl (by decide +kernel) ⟨Nat.le_of_ble_eq_true rfl, Nat.le_of_ble_eq_true rfl⟩) (pz_preV (va_recv hK hP (q0 := 0) rfl rfl) hP hK) rfl rfl hl.1 rfl (lv_room (Nat.le_of_ble_eq_true rfl)) dXP_get_41 ⟨Nat.zero_le _, Nat.zero_le _⟩) hS (fun q _ h => h.elim) (fun q h => h.elim) (fun r u t H locs ht hvm hw _ hz hk9 hS => ?_)
      have hP := pz_keep hP hk9
      clear hk9 hz ht hvm
      subst hw
      refine vx_ret ?_
      refine W.widen (k := 1) (n := 6) (Nat.le_of_ble_eq_true rfl) (Nat.le_of_ble_eq_true rfl) ?_
      exact W.lret (v := pz_rl dk n0 i0) hx hb hr (fun t ht hW => ⟨⟨_, (dk, su, bl, pt, py), rfl, ⟨by unfold pz_gG; rw [if_neg (by rw [hmo]; decide), if_neg (by rw [hc]; decide), nI_clamp (by omega), nI_clamp (by omega), hI.rl hmo hn0 hi0], hI⟩, by rw [ht]; exact hP, va_K.moved hW.alike hK, hD⟩, hS.F ht⟩) hS.2.2 dXP_get_44
    · have hc : (pz_isL n i) = false := pz_b0.mp hc
      exact vx_throwS (own := "ParityArray") (cls := "java/lang/IndexOutOfBoundsException") (text := "no such block or long") (names := ["java/lang/RuntimeException", "java/lang/Exception"]) (ik := 48) (is := 50) (ic := 52) (sa := sa 1) hx hb hl0 hown (by decide) (by decide) (hts _ (List.mem_cons_of_mem _ tw_178)) (hts _ (List.mem_cons_of_mem _ tw_9)) (hSR 1 (50, "no such block or long") rfl) (vx_hat (fun w h => hts w (List.mem_cons_of_mem _ (gm_52 w h))) bm_52 (fun w h => va_Nw.use (pz_nws_on w h) (hNW w h))) ok_52 hZ.1 hZ.2 hS (hl.1.trans hml.symm) dXP_get_28 dXP_get_31 dXP_get_32 dXP_get_34 dXP_get_37 (fun x h => (hnt x h).elim) (Nat.le_of_ble_eq_true rfl) (Nat.le_of_ble_eq_true rfl) (Nat.le_of_ble_eq_true rfl) (Nat.le_of_ble_eq_true rfl) hlocks (fun t hvm h1 h2 => ⟨((dk, su, bl, pt, py), 2), ⟨⟨by unfold pz_gG; rw [if_neg (by rw [hmo]; decide), if_pos hc], hI⟩, (show 2 ≠ 0 by decide)⟩, ⟨rfl, hP.kept (fun k q hq => h2 q.1 ((hP k q hq).lt)), va_K.moved hvm hK, hD⟩, pz_thF hS h1 h2⟩) hS.2.2 (Nat.le_of_ble_eq_true rfl) (Nat.le_of_ble_eq_true rfl)
  · have hc : (pz_on su) = false := pz_b0.mp hc
    have hmo : pz_mo x = false := hon9 ▸ hc
    exact vx_throwS (own := "ParityArray") (cls := "java/lang/IllegalStateException") (text := "power is off") (names := ["java/lang/RuntimeException", "java/lang/Exception"]) (ik := 37) (is := 39) (ic := 41) (sa := sa 0) hx hb hl0 hown (by decide) (by decide) (hts _ (List.mem_cons_of_mem _ tw_106)) (hts _ (List.mem_cons_of_mem _ tw_8)) (hSR 0 (39, "power is off") rfl) (vx_hat (fun w h => hts w (List.mem_cons_of_mem _ (gm_41 w h))) bm_41 (fun w h => va_Nw.use (pz_nws_on w h) (hNW w h))) ok_41 hZ.1 hZ.2 hS (hl.1.trans hml.symm) dXP_get_10 dXP_get_13 dXP_get_14 dXP_get_16 dXP_get_19 (fun x h => (hnt x h).elim) (Nat.le_of_ble_eq_true rfl) (Nat.le_of_ble_eq_true rfl) (Nat.le_of_ble_eq_true rfl) (Nat.le_of_ble_eq_true rfl) hlocks (fun t hvm h1 h2 => ⟨((dk, su, bl, pt, py), 1), ⟨⟨by unfold pz_gG; rw [if_pos hmo], hI⟩, (show 1 ≠ 0 by decide)⟩, ⟨rfl, hP.kept (fun k q hq => h2 q.1 ((hP k q hq).lt)), va_K.moved hvm hK, hD⟩, pz_thF hS h1 h2⟩) hS.2.2 (Nat.le_of_ble_eq_true rfl) (Nat.le_of_ble_eq_true rfl)

def pz_EX_XP_set : Nat → String := fun k => match k with
  | 1 => "java/lang/IllegalStateException"
  | 2 => "java/lang/IndexOutOfBoundsException"
  | _ => "java/lang/ArithmeticException"
set_option maxHeartbeats 4000000 in
set_option maxRecDepth 100000 in
/-- set -/
theorem c_XP_set (l : Launch) (hl0 : l.stackTraces = false) (dC : Nat → ClassId) (dI : Nat → Nat → Nat) (sz : Nat) (a : pz_Ad) (cJ cD : ClassId) (dk : Nat → pz_Dk) (su : pz_Su) (bl pt py : Nat → Int64) (sa : Nat → Nat) (x : pz_Mu) (n i : Int32) (w0 : Int64) (hI : pz_Inv dk su x) : vx_Met l yXP_set wsXP_set ({ frames := 6, cells := 1, slots := 6, locals := 132 }) (va_Pc [.ref (pz_ax a), .int n, .int i, .long w0] (fun U => U.heap.size = sz ∧ va_P (dC, dI) vwCl (pz_XW a cJ cD dk su bl pt py) U.heap ∧ va_K (dC, dI) vwCl [(cJ, .long), (cD, .object "ParityArray$Disk")] U ∧ va_D (fun _ => True) (pz_XW a cJ cD dk su bl pt py) ∧ pz_NW U ∧ pz_SR sa U ∧ pz_ZS (va_A (pz_XW a cJ cD dk su bl pt py) sz) U U.heap)) (va_Ql (fun (r : Int64) (u : pz_St) => r = (pz_gS x n i w0).1 ∧ (pz_gS x n i w0).2.2 = 0 ∧ pz_Inv u.1 u.2.1 (pz_gS x n i w0).2.1) (fun u t => va_P (dC, dI) vwCl (pz_XW a cJ cD u.1 u.2.1 u.2.2.1 u.2.2.2.1 u.2.2.2.2) t.heap ∧ va_K (dC, dI) vwCl [(cJ, .long), (cD, .object "ParityArray$Disk")] t ∧ va_D (va_A (pz_XW a cJ cD dk su bl pt py) sz) (pz_XW a cJ cD u.1 u.2.1 u.2.2.1 u.2.2.2.1 u.2.2.2.2)) (va_A (pz_XW a cJ cD dk su bl pt py) sz)) (vx_X (fun u : pz_St × Nat => ((pz_gS x n i w0).2.2 = u.2 ∧ pz_Inv u.1.1 u.1.2.1 (pz_gS x n i w0).2.1) ∧ u.2 ≠ 0) (fun E u t => E = pz_EX_XP_set u.2 ∧ va_P (dC, dI) vwCl (pz_XW a cJ cD u.1.1 u.1.2.1 u.1.2.2.1 u.1.2.2.2.1 u.1.2.2.2.2) t.heap ∧ va_K (dC, dI) vwCl [(cJ, .long), (cD, .object "ParityArray$Disk")] t ∧ va_D (va_A (pz_XW a cJ cD dk su bl pt py) sz) (pz_XW a cJ cD u.1.1 u.1.2.1 u.1.2.2.1 u.1.2.2.2.1 u.1.2.2.2.2)) (va_A (pz_XW a cJ cD dk su bl pt py) sz)) 1 6 (va_A (pz_XW a cJ cD dk su bl pt py) sz) := by
  refine vx_ofW (cc := cXP_set) (maxL := 7) (ret := (some .long)) (by decide) rfl ?_
  intro p e s m args below meth c s₁ B hml hnt hv
  obtain ⟨rfl, hsz, hP, hK, hD0, hNW, hSR, hZ⟩ := hv
  have hx := B.exec
  have hb := B.bytes
  have hr := B.returns
  have hts := atoms_spec (ws := wsXP_set) B.pre
  have hown : s.vm.findClass "ParityArray" = some m.cls := findClass_of_methodNamed B.named
  have hlocks := B.notSynchronized
  subst hsz
  have hD := hD0.self (sz := s.heap.size)
  generalize hAe : va_A (pz_XW a cJ cD dk su bl pt py) s.heap.size = A at hD hZ ⊢
  have hA : ∀ q : Nat, s.heap.size ≤ q → A q := fun q h => by rw [← hAe]; exact Or.inr h
  have hS : va_S A s.heap s.heap [] := va_S.rf
  have hl := lv_entry ([.ref (pz_ax a), .int n, .int i, .long w0]) (n := 7) (Nat.le_of_ble_eq_true rfl)
  rw [lg_entry_eq]
  generalize (lg_sl ([.ref (pz_ax a), .int n, .int i, .long w0]) ++ List.replicate (7 - (lg_sl ([.ref (pz_ax a), .int n, .int i, .long w0])).length) Slot.unset).toArray = ls at hl ⊢
  have hl : lv_has ls 7 [(0, .ref (pz_ax a)), (1, .int n), (2, .int i), (3, .long w0)] := hl
  have hth : ∀ d, d < 5 → pz_th (dk d) ≤ 150 := fun d h9 => hI.2.1.th h9
  have hon9 : pz_on su = pz_mo x := hI.2.2.1
  obtain ⟨hcw, hcb⟩ := hI.2.2.b
  refine lv_aload_n hx hb dXP_set_0 rfl (lv_at hl 0 rfl) ?_
  refine va_get (D := (dC, dI)) (ci := 2) (v := .ref (pz_as a)) (C := "ParityArray") (T := TXP) (N := 5) hx hb hts (fun w h => List.mem_cons_of_mem _ (inXP w h)) hown hK hP 0 rfl rfl 1 (by decide) (hts _ (List.mem_cons_of_mem _ tw_81)) (fun _ h9 => h9) rfl dXP_set_1 ?_
  refine va_getN (D := (dC, dI)) (ci := 1) (v := .int (pz_b (pz_on su))) (C := "ParityArray$Supply") (T := TXS) (N := 7) hx hb hts (fun w h => List.mem_cons_of_mem _ (inXS w h)) hown hK hP 2 rfl rfl 0 (by decide) (va_Nw.use rfl (hNW _ (List.mem_of_getElem? (i := 1) rfl))) (fun _ h9 => h9) rfl dXP_set_4 ?_
  refine lv_if_ne (tgt := 20) hx hb dXP_set_7 (by decide) (fun hc => ?_) (fun hc => ?_)
  · have hc : (pz_on su) = true := pz_bn hc
    have hmo : pz_mo x = true := hon9 ▸ hc
    refine lv_iload_n hx hb dXP_set_20 rfl (lv_at hl 1 rfl) ?_
    refine lv_iload_n hx hb dXP_set_21 rfl (lv_at hl 2 rfl) ?_
    refine va_calli (va_runS (As := [.int n, .int i]) (rest := []) ⟨hx, hb, hml, hown, hts⟩ (c_XP_isLong l n i) (va_cwS 2 hts (pz_gc (List.mem_cons_of_mem _ tw_175) rfl (pz_gc (List.mem_cons_of_mem _ tw_176) rfl (pz_gc (List.mem_cons_of_mem _ tw_1) rfl (pz_gi tcXP_isLong)))) rfl rfl rfl (by decide +kernel) ⟨Nat.le_of_ble_eq_true rfl, Nat.le_of_ble_eq_true rfl⟩) pz_preS0 rfl rfl hl.1 rfl (lv_room (Nat.le_of_ble_eq_true rfl)) dXP_set_22 ⟨Nat.zero_le _, Nat.zero_le _⟩) hS (fun q _ h => h.elim) (fun q h => h.elim) (fun r u t H locs ht hvm hw _ hz hk9 hS => ?_)
    have hP := pz_keep hP hk9
    clear hk9 hz ht hvm
    subst hw
    refine lv_if_ne (tgt := 38) hx hb dXP_set_25 (by decide) (fun hc => ?_) (fun hc => ?_)
    · have hc : (pz_isL n i) = true := pz_bn hc
      obtain ⟨n0, i0, hn0, hi0, rfl, rfl⟩ := pz_isL_of hc
      have hG : pz_gS x (nI n0) (nI i0) w0 = (if pz_mF x = 1 then 0 else pz_mM x (16 * n0 + i0), pz_mset x n0 i0 w0, if pz_mF x = 1 then 3 else 0) := by unfold pz_gS; rw [if_neg (by rw [hmo]; decide), if_neg (by rw [hc]; decide), nI_clamp (by omega), nI_clamp (by omega)]
      refine lv_aload_n hx hb dXP_set_38 rfl (lv_at hl 0 rfl) ?_
      refine lv_iload_n hx hb dXP_set_39 rfl (lv_at hl 1 rfl) ?_
      refine lv_iload_n hx hb dXP_set_40 rfl (lv_at hl 2 rfl) ?_
      refine va_calll (va_runV (As := [.int (nI n0), .int (nI i0)]) (rest := []) ⟨hx, hb, hml, hown, hts⟩ (c_XP_readLong l dC dI a cJ cD dk su bl pt py n0 i0 hth hn0 hi0) (cwV 2 hts (pz_gc (List.mem_cons_of_mem _ tw_194) rfl (pz_gc (List.mem_cons_of_mem _ tw_196) rfl (pz_gc (List.mem_cons_of_mem _ ts_1) rfl (pz_gc (List.mem_cons_of_mem _ tw_1) rfl (pz_gi tcXP_readLong))))) rfl rfl rfl (by decide +kernel) ⟨Nat.le_of_ble_eq_true rfl, Nat.le_of_ble_eq_true rfl⟩) (pz_preV (va_recv hK hP (q0 := 0) rfl rfl) hP hK) rfl rfl hl.1 rfl (lv_room (Nat.le_of_ble_eq_true rfl)) dXP_set_41 ⟨Nat.zero_le _, Nat.zero_le _⟩) hS (fun q _ h => h.elim) (fun q h => h.elim) (fun r u t H locs ht hvm hw _ hz hk9 hS => ?_)
      have hP := pz_keep hP hk9
      clear hk9 hz ht hvm
      subst hw
      refine lv_lstore hx hb dXP_set_44 hl (by decide) rfl (fun ls hl => ?_)
      have hl : lv_has ls 7 [(5, .long (pz_rl dk n0 i0)), (0, .ref (pz_ax a)), (1, .int (nI n0)), (2, .int (nI i0)), (3, .long w0)] := hl
      refine lv_aload_n hx hb dXP_set_46 rfl (lv_at hl 1 rfl) ?_
      refine lv_iload_n hx hb dXP_set_47 rfl (lv_at hl 2 rfl) ?_
      refine lv_iload_n hx hb dXP_set_48 rfl (lv_at hl 3 rfl) ?_
      refine lv_lload_n hx hb dXP_set_49 rfl (lv_at hl 4 rfl) ?_
      have hPc := hP
      have hDc := hD
      have hFc := pz_W_F hD hS hA
      refine va_callv (va_runV (As := [.int (nI n0), .int (nI i0), .long w0]) (rest := []) ⟨hx, hb, hml, hown, hts⟩ (c_XP_prepareRows l dC dI _ a cJ cD dk su bl pt py n0 i0 w0 hth hn0 hi0) (cwV 3 hts (pz_gc (List.mem_cons_of_mem _ tw_219) rfl (pz_gc (List.mem_cons_of_mem _ tw_221) rfl (pz_gc (List.mem_cons_of_mem _ ts_3) rfl (pz_gc (List.mem_cons_of_mem _ tw_1) rfl (pz_gi tcXP_prepareRows))))) rfl rfl rfl (by decide +kernel) ⟨Nat.le_of_ble_eq_true rfl, Nat.le_of_ble_eq_true rfl⟩) (pz_preVw (va_recv hK hPc (q0 := 0) rfl rfl) hPc hK hDc) rfl rfl hl.1 rfl (lv_room (Nat.le_of_ble_eq_true rfl)) dXP_set_50 ⟨Nat.zero_le _, Nat.zero_le _⟩) hS (fun q _ h => hFc q h) hFc (fun u t H1 locs ht hvm hw hB hz hk1 hS => ?_)
      obtain ⟨hP1, hK1, hD1⟩ := hB
      rw [ht] at hP1
      obtain ⟨bl1, pt1, py1⟩ := u; obtain ⟨hb1, hb2, hb3⟩ := hw; dsimp only at hb1 hb2 hb3 hP1 hD1
      obtain ⟨hP, hD⟩ := pz_W_J hP1 hFc hD1
      clear hPc hDc hFc hP1 hD1 hK1 hk1 hz ht hvm
      generalize H1 = H at hP hS ⊢
      refine lv_aload_n hx hb dXP_set_53 rfl (lv_at hl 1 rfl) ?_
      refine va_get (D := (dC, dI)) (ci := 2) (v := .ref (pz_as a)) (C := "ParityArray") (T := TXP) (N := 5) hx hb hts (fun w h => List.mem_cons_of_mem _ (inXP w h)) hown hK hP 0 rfl rfl 1 (by decide) (hts _ (List.mem_cons_of_mem _ tw_81)) (fun _ h9 => h9) rfl dXP_set_54 ?_
      refine lv_iconst (v := nI 0) hx hb dXP_set_57 (by decide) ?_
      refine lv_topi (nm_r (show nI 0 = pz_b false from rfl) ?_)
      have hPc := pz_Xs_P hP
      have hDc := pz_Xs_D hD
      have hFc := pz_Xs_F hD hS hA
      refine va_callv (va_runV (As := [.int (pz_b false)]) (rest := []) ⟨hx, hb, hml, hown, hts⟩ (c_XS_begin l dC dI _ (pz_as a) su false) (cwV 1 hts (pz_gc (List.mem_cons_of_mem _ tw_223) rfl (pz_gc (List.mem_cons_of_mem _ tw_224) rfl (pz_gc (List.mem_cons_of_mem _ tw_225) rfl (pz_gc (List.mem_cons_of_mem _ tw_2) rfl (pz_gi tcXS_begin))))) rfl rfl rfl (by decide +kernel) ⟨Nat.le_of_ble_eq_true rfl, Nat.le_of_ble_eq_true rfl⟩) (pz_preVw (va_recv hK hPc (q0 := 0) rfl rfl) hPc (hK.sub [] rfl) hDc) rfl rfl hl.1 rfl (lv_room (Nat.le_of_ble_eq_true rfl)) dXP_set_58 ⟨Nat.zero_le _, Nat.zero_le _⟩) hS (fun q _ h => hFc q h) hFc (fun u t H1 locs ht hvm hw hB hz hk1 hS => ?_)
      obtain ⟨hP1, hK1, hD1⟩ := hB
      rw [ht] at hP1
      subst hw
      obtain ⟨hP, hD⟩ := pz_Xs_J hP hD hk1 hFc hP1 hD1
      clear hPc hDc hFc hP1 hD1 hK1 hk1 hz ht hvm
      generalize H1 = H at hP hS ⊢
      refine lv_aload_n hx hb dXP_set_61 rfl (lv_at hl 1 rfl) ?_
      refine lv_iload_n hx hb dXP_set_62 rfl (lv_at hl 2 rfl) ?_
      have hPc := hP
      have hDc := hD
      have hFc := pz_W_F hD hS hA
      refine va_callv (va_runV (As := [.int (nI n0)]) (rest := []) ⟨hx, hb, hml, hown, hts⟩ (c_XP_writeRows l dC dI _ a cJ cD dk (pz_beg false su) bl1 pt1 py1 n0 hth hcw hcb (show 0 < 50 by decide) hn0) (cwV 1 hts (pz_gc (List.mem_cons_of_mem _ tw_227) rfl (pz_gc (List.mem_cons_of_mem _ tw_229) rfl (pz_gc (List.mem_cons_of_mem _ ts_4) rfl (pz_gc (List.mem_cons_of_mem _ tw_1) rfl (pz_gi tcXP_writeRows))))) rfl rfl rfl (by decide +kernel) ⟨Nat.le_of_ble_eq_true rfl, Nat.le_of_ble_eq_true rfl⟩) (pz_preVw (va_recv hK hPc (q0 := 0) rfl rfl) hPc hK hDc) rfl rfl hl.1 rfl (lv_room (Nat.le_of_ble_eq_true rfl)) dXP_set_63 ⟨Nat.zero_le _, Nat.zero_le _⟩) hS (fun q _ h => hFc q h) hFc (fun u t H1 locs ht hvm hw hB hz hk1 hS => ?_)
      obtain ⟨hP1, hK1, hD1⟩ := hB
      rw [ht] at hP1
      subst hw
      obtain ⟨hP, hD⟩ := pz_W_J hP1 hFc hD1
      clear hPc hDc hFc hP1 hD1 hK1 hk1 hz ht hvm
      generalize H1 = H at hP hS ⊢
      refine lv_aload_n hx hb dXP_set_66 rfl (lv_at hl 1 rfl) ?_
      refine va_get (D := (dC, dI)) (ci := 2) (v := .ref (pz_as a)) (C := "ParityArray") (T := TXP) (N := 5) hx hb hts (fun w h => List.mem_cons_of_mem _ (inXP w h)) hown hK hP 0 rfl rfl 1 (by decide) (hts _ (List.mem_cons_of_mem _ tw_81)) (fun _ h9 => h9) rfl dXP_set_67 ?_
      have hPc := pz_Xs_P hP
      have hDc := pz_Xs_D hD
      have hFc := pz_Xs_F hD hS hA
      refine va_callv (va_runV (As := []) (rest := []) ⟨hx, hb, hml, hown, hts⟩ (c_XS_end l dC dI _ (pz_as a) ((pz_wrs dk (pz_beg false su) bl1 pt1 py1 n0).2)) (cwV 0 hts (pz_gc (List.mem_cons_of_mem _ tw_250) rfl (pz_gc (List.mem_cons_of_mem _ tw_251) rfl (pz_gc (List.mem_cons_of_mem _ tw_252) rfl (pz_gc (List.mem_cons_of_mem _ tw_2) rfl (pz_gi tcXS_end))))) rfl rfl rfl (by decide +kernel) ⟨Nat.le_of_ble_eq_true rfl, Nat.le_of_ble_eq_true rfl⟩) (pz_preVw (va_recv hK hPc (q0 := 0) rfl rfl) hPc (hK.sub [] rfl) hDc) rfl rfl hl.1 rfl (lv_room (Nat.le_of_ble_eq_true rfl)) dXP_set_70 ⟨Nat.zero_le _, Nat.zero_le _⟩) hS (fun q _ h => hFc q h) hFc (fun u t H1 locs ht hvm hw hB hz hk1 hS => ?_)
      obtain ⟨hP1, hK1, hD1⟩ := hB
      rw [ht] at hP1
      subst hw
      obtain ⟨hP, hD⟩ := pz_Xs_J hP hD hk1 hFc hP1 hD1
      clear hPc hDc hFc hP1 hD1 hK1 hk1 hz ht hvm
      generalize H1 = H at hP hS ⊢
      have hI2 := hI.set hmo hn0 hi0 (w := w0) (bl := bl1) (pt := pt1) (py := py1) (fun j hj => by rw [hb1 j hj]; by_cases e9 : j = i0; rw [if_pos e9, if_pos e9]; rw [if_neg e9, if_neg e9, hI.rl hmo hn0 hj]) (fun j hj => by rw [hb2 j hj, hI.rl hmo hn0 hj]) hb3
      have hon2 := hI2.2.2.1
      generalize hR9 : pz_wrs dk (pz_beg false su) bl1 pt1 py1 n0 = r9 at hP hD hI2 hon2 ⊢
      refine lv_aload_n hx hb dXP_set_73 rfl (lv_at hl 1 rfl) ?_
      refine va_get (D := (dC, dI)) (ci := 2) (v := .ref (pz_as a)) (C := "ParityArray") (T := TXP) (N := 5) hx hb hts (fun w h => List.mem_cons_of_mem _ (inXP w h)) hown hK hP 0 rfl rfl 1 (by decide) (hts _ (List.mem_cons_of_mem _ tw_81)) (fun _ h9 => h9) rfl dXP_set_74 ?_
      refine va_getN (D := (dC, dI)) (ci := 1) (v := .int (pz_b (pz_on (pz_end r9.2)))) (C := "ParityArray$Supply") (T := TXS) (N := 7) hx hb hts (fun w h => List.mem_cons_of_mem _ (inXS w h)) hown hK hP 2 rfl rfl 0 (by decide) (va_Nw.use rfl (hNW _ (List.mem_of_getElem? (i := 1) rfl))) (fun _ h9 => h9) rfl dXP_set_77 ?_
      refine lv_if_ne (tgt := 93) hx hb dXP_set_80 (by decide) (fun hc => ?_) (fun hc => ?_)
      · have hc : (pz_on (pz_end r9.2)) = true := pz_bn hc
        have hF : ¬ pz_mF x = 1 := by have h9 := hon2.symm.trans hc; exact of_decide_eq_true h9
        refine lv_lload hx hb dXP_set_93 (lv_at hl 0 rfl) ?_
        refine vx_ret ?_
        refine W.widen (k := 1) (n := 6) (Nat.le_of_ble_eq_true rfl) (Nat.le_of_ble_eq_true rfl) ?_
        exact W.lret (v := pz_rl dk n0 i0) hx hb hr (fun t ht hW => ⟨⟨_, (r9.1, pz_end r9.2, bl1, pt1, py1), rfl, by rw [hG]; exact ⟨by show _ = (if pz_mF x = 1 then 0 else _); rw [if_neg hF]; exact hI.rl hmo hn0 hi0, by show (if pz_mF x = 1 then 3 else 0) = 0; rw [if_neg hF], hI2⟩, by rw [ht]; exact hP, va_K.moved hW.alike hK, hD⟩, hS.F ht⟩) hS.2.2 dXP_set_95
      · have hc : (pz_on (pz_end r9.2)) = false := pz_b0.mp hc
        have hF : pz_mF x = 1 := by have h9 := hon2.symm.trans hc; exact Classical.byContradiction fun h8 => of_decide_eq_false h9 h8
        exact vx_throwS (own := "ParityArray") (cls := "java/lang/ArithmeticException") (text := "power failed") (names := ["java/lang/RuntimeException", "java/lang/Exception"]) (ik := 72) (is := 74) (ic := 76) (sa := sa 2) hx hb hl0 hown (by decide) (by decide) (hts _ (List.mem_cons_of_mem _ tw_254)) (hts _ (List.mem_cons_of_mem _ tw_12)) (hSR 2 (74, "power failed") rfl) (vx_hat (fun w h => hts w (List.mem_cons_of_mem _ (gm_76 w h))) bm_76 (fun w h => va_Nw.use (pz_nws_on w h) (hNW w h))) ok_76 hZ.1 hZ.2 hS (hl.1.trans hml.symm) dXP_set_83 dXP_set_86 dXP_set_87 dXP_set_89 dXP_set_92 (fun x h => (hnt x h).elim) (Nat.le_of_ble_eq_true rfl) (Nat.le_of_ble_eq_true rfl) (Nat.le_of_ble_eq_true rfl) (Nat.le_of_ble_eq_true rfl) hlocks (fun t hvm h1 h2 => ⟨((r9.1, pz_end r9.2, bl1, pt1, py1), 3), ⟨by rw [hG]; exact ⟨by show (if pz_mF x = 1 then 3 else 0) = 3; rw [if_pos hF], hI2⟩, (show 3 ≠ 0 by decide)⟩, ⟨rfl, hP.kept (fun k q hq => h2 q.1 ((hP k q hq).lt)), va_K.moved hvm hK, hD⟩, pz_thF hS h1 h2⟩) hS.2.2 (Nat.le_of_ble_eq_true rfl) (Nat.le_of_ble_eq_true rfl)
    · have hc : (pz_isL n i) = false := pz_b0.mp hc
      exact vx_throwS (own := "ParityArray") (cls := "java/lang/IndexOutOfBoundsException") (text := "no such block or long") (names := ["java/lang/RuntimeException", "java/lang/Exception"]) (ik := 48) (is := 50) (ic := 52) (sa := sa 1) hx hb hl0 hown (by decide) (by decide) (hts _ (List.mem_cons_of_mem _ tw_178)) (hts _ (List.mem_cons_of_mem _ tw_9)) (hSR 1 (50, "no such block or long") rfl) (vx_hat (fun w h => hts w (List.mem_cons_of_mem _ (gm_52 w h))) bm_52 (fun w h => va_Nw.use (pz_nws_on w h) (hNW w h))) ok_52 hZ.1 hZ.2 hS (hl.1.trans hml.symm) dXP_set_28 dXP_set_31 dXP_set_32 dXP_set_34 dXP_set_37 (fun x h => (hnt x h).elim) (Nat.le_of_ble_eq_true rfl) (Nat.le_of_ble_eq_true rfl) (Nat.le_of_ble_eq_true rfl) (Nat.le_of_ble_eq_true rfl) hlocks (fun t hvm h1 h2 => ⟨((dk, su, bl, pt, py), 2), ⟨by unfold pz_gS; rw [if_neg (by rw [hmo]; decide), if_pos hc]; exact ⟨rfl, hI⟩, (show 2 ≠ 0 by decide)⟩, ⟨rfl, hP.kept (fun k q hq => h2 q.1 ((hP k q hq).lt)), va_K.moved hvm hK, hD⟩, pz_thF hS h1 h2⟩) hS.2.2 (Nat.le_of_ble_eq_true rfl) (Nat.le_of_ble_eq_true rfl)
  · have hc : (pz_on su) = false := pz_b0.mp hc
    have hmo : pz_mo x = false := hon9 ▸ hc
    exact vx_throwS (own := "ParityArray") (cls := "java/lang/IllegalStateException") (text := "power is off") (names := ["java/lang/RuntimeException", "java/lang/Exception"]) (ik := 37) (is := 39) (ic := 41) (sa := sa 0) hx hb hl0 hown (by decide) (by decide) (hts _ (List.mem_cons_of_mem _ tw_106)) (hts _ (List.mem_cons_of_mem _ tw_8)) (hSR 0 (39, "power is off") rfl) (vx_hat (fun w h => hts w (List.mem_cons_of_mem _ (gm_41 w h))) bm_41 (fun w h => va_Nw.use (pz_nws_on w h) (hNW w h))) ok_41 hZ.1 hZ.2 hS (hl.1.trans hml.symm) dXP_set_10 dXP_set_13 dXP_set_14 dXP_set_16 dXP_set_19 (fun x h => (hnt x h).elim) (Nat.le_of_ble_eq_true rfl) (Nat.le_of_ble_eq_true rfl) (Nat.le_of_ble_eq_true rfl) (Nat.le_of_ble_eq_true rfl) hlocks (fun t hvm h1 h2 => ⟨((dk, su, bl, pt, py), 1), ⟨by unfold pz_gS; rw [if_pos hmo]; exact ⟨rfl, hI⟩, (show 1 ≠ 0 by decide)⟩, ⟨rfl, hP.kept (fun k q hq => h2 q.1 ((hP k q hq).lt)), va_K.moved hvm hK, hD⟩, pz_thF hS h1 h2⟩) hS.2.2 (Nat.le_of_ble_eq_true rfl) (Nat.le_of_ble_eq_true rfl)

