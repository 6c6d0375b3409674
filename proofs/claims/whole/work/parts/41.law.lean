/-! the law: its world, its loop (laid by a program) -/
def pz_WW (a : pz_Ad) (cJ cD : ClassId) (dk : Nat → pz_Dk) (su : pz_Su) (bl pt py : Nat → Int64) (o : Nat) (ov : Nat → Int64) (h0 aB : Nat) (cB : ClassId) (f : Nat → Int32) (x : pz_Mu) (th : Nat) : va_W := pz_LX a cJ cD dk su bl pt py o ov ++ pz_MW h0 aB cB f x th
theorem pz_G_P {a : pz_Ad} {cJ cD : ClassId} {dk : Nat → pz_Dk} {su : pz_Su} {bl pt py : Nat → Int64} {o : Nat} {ov : Nat → Int64} {h0 aB : Nat} {cB : ClassId} {f : Nat → Int32} {x : pz_Mu} {th : Nat} {D : va_G} {H : Heap} (hP : va_P D vwCl (pz_WW a cJ cD dk su bl pt py o ov h0 aB cB f x th) H) : va_P D vwCl (pz_LX a cJ cD dk su bl pt py o ov) H := hP.sub [0, 1, 2, 3, 4, 5, 6, 7, 8, 9, 10, 11, 12, 13, 14, 15, 16, 17, 18, 19, 20, 21] rfl
theorem pz_G_D {a : pz_Ad} {cJ cD : ClassId} {dk : Nat → pz_Dk} {su : pz_Su} {bl pt py : Nat → Int64} {o : Nat} {ov : Nat → Int64} {h0 aB : Nat} {cB : ClassId} {f : Nat → Int32} {x : pz_Mu} {th : Nat} {A : Nat → Prop} (hD : va_D A (pz_WW a cJ cD dk su bl pt py o ov h0 aB cB f x th)) : va_D A (pz_LX a cJ cD dk su bl pt py o ov) := hD.sub [0, 1, 2, 3, 4, 5, 6, 7, 8, 9, 10, 11, 12, 13, 14, 15, 16, 17, 18, 19, 20, 21] (by decide) rfl
theorem pz_G_F {a : pz_Ad} {cJ cD : ClassId} {dk : Nat → pz_Dk} {su : pz_Su} {bl pt py : Nat → Int64} {o : Nat} {ov : Nat → Int64} {h0 aB : Nat} {cB : ClassId} {f : Nat → Int32} {x : pz_Mu} {th : Nat} {A : Nat → Prop} {H H0 : Heap} {locs : List Loc} (hD : va_D A (pz_WW a cJ cD dk su bl pt py o ov h0 aB cB f x th)) (hS : va_S A H0 H locs) (hA : ∀ q, H0.size ≤ q → A q) : ∀ q, va_A (pz_LX a cJ cD dk su bl pt py o ov) H.size q → A q := va_free hD hS hA [0, 1, 2, 3, 4, 5, 6, 7, 8, 9, 10, 11, 12, 13, 14, 15, 16, 17, 18, 19, 20, 21] rfl
set_option maxHeartbeats 4000000 in
set_option maxRecDepth 100000 in
theorem pz_G_J {a : pz_Ad} {cJ cD : ClassId} {dk : Nat → pz_Dk} {su : pz_Su} {bl pt py : Nat → Int64} {o : Nat} {ov : Nat → Int64} {h0 aB : Nat} {cB : ClassId} {f : Nat → Int32} {x : pz_Mu} {th : Nat} {D : va_G} {A : Nat → Prop} {H H1 : Heap} {dk' : Nat → pz_Dk} {su' : pz_Su} {bl' pt' py' ov' : Nat → Int64} (hP : va_P D vwCl (pz_WW a cJ cD dk su bl pt py o ov h0 aB cB f x th) H) (hD : va_D A (pz_WW a cJ cD dk su bl pt py o ov h0 aB cB f x th)) (hk : ∀ q : Nat, q < H.size → ¬ va_A (pz_LX a cJ cD dk su bl pt py o ov) H.size q → H1[q]? = H[q]?) (hF : ∀ q, va_A (pz_LX a cJ cD dk su bl pt py o ov) H.size q → A q) (hP1 : va_P D vwCl (pz_LX a cJ cD dk' su' bl' pt' py' o ov') H1) (hD1 : va_D (va_A (pz_LX a cJ cD dk su bl pt py o ov) H.size) (pz_LX a cJ cD dk' su' bl' pt' py' o ov')) : va_P D vwCl (pz_WW a cJ cD dk' su' bl' pt' py' o ov' h0 aB cB f x th) H1 ∧ va_D A (pz_WW a cJ cD dk' su' bl' pt' py' o ov' h0 aB cB f x th) := by
  obtain ⟨hP2, hD2⟩ := va_join (wr := pz_MW h0 aB cB f x th) (w1 := pz_LX a cJ cD dk' su' bl' pt' py' o ov') hP hD [0, 1, 2, 3, 4, 5, 6, 7, 8, 9, 10, 11, 12, 13, 14, 15, 16, 17, 18, 19, 20, 21] [22, 23] rfl rfl (by decide) (by decide) hk hF hP1 hD1
  exact ⟨hP2.sub [2, 3, 4, 5, 6, 7, 8, 9, 10, 11, 12, 13, 14, 15, 16, 17, 18, 19, 20, 21, 22, 23, 0, 1] rfl, hD2.sub [2, 3, 4, 5, 6, 7, 8, 9, 10, 11, 12, 13, 14, 15, 16, 17, 18, 19, 20, 21, 22, 23, 0, 1] (by decide) rfl⟩
theorem pz_M_P {a : pz_Ad} {cJ cD : ClassId} {dk : Nat → pz_Dk} {su : pz_Su} {bl pt py : Nat → Int64} {o : Nat} {ov : Nat → Int64} {h0 aB : Nat} {cB : ClassId} {f : Nat → Int32} {x : pz_Mu} {th : Nat} {D : va_G} {H : Heap} (hP : va_P D vwCl (pz_WW a cJ cD dk su bl pt py o ov h0 aB cB f x th) H) : va_P D vwCl (pz_MW h0 aB cB f x th) H := hP.sub [22, 23] rfl
theorem pz_M_D {a : pz_Ad} {cJ cD : ClassId} {dk : Nat → pz_Dk} {su : pz_Su} {bl pt py : Nat → Int64} {o : Nat} {ov : Nat → Int64} {h0 aB : Nat} {cB : ClassId} {f : Nat → Int32} {x : pz_Mu} {th : Nat} {A : Nat → Prop} (hD : va_D A (pz_WW a cJ cD dk su bl pt py o ov h0 aB cB f x th)) : va_D A (pz_MW h0 aB cB f x th) := hD.sub [22, 23] (by decide) rfl
theorem pz_M_F {a : pz_Ad} {cJ cD : ClassId} {dk : Nat → pz_Dk} {su : pz_Su} {bl pt py : Nat → Int64} {o : Nat} {ov : Nat → Int64} {h0 aB : Nat} {cB : ClassId} {f : Nat → Int32} {x : pz_Mu} {th : Nat} {A : Nat → Prop} {H H0 : Heap} {locs : List Loc} (hD : va_D A (pz_WW a cJ cD dk su bl pt py o ov h0 aB cB f x th)) (hS : va_S A H0 H locs) (hA : ∀ q, H0.size ≤ q → A q) : ∀ q, va_A (pz_MW h0 aB cB f x th) H.size q → A q := va_free hD hS hA [22, 23] rfl
set_option maxHeartbeats 4000000 in
set_option maxRecDepth 100000 in
theorem pz_M_J {a : pz_Ad} {cJ cD : ClassId} {dk : Nat → pz_Dk} {su : pz_Su} {bl pt py : Nat → Int64} {o : Nat} {ov : Nat → Int64} {h0 aB : Nat} {cB : ClassId} {f : Nat → Int32} {x : pz_Mu} {th : Nat} {D : va_G} {A : Nat → Prop} {H H1 : Heap} {f' : Nat → Int32} {x' : pz_Mu} {th' : Nat} (hP : va_P D vwCl (pz_WW a cJ cD dk su bl pt py o ov h0 aB cB f x th) H) (hD : va_D A (pz_WW a cJ cD dk su bl pt py o ov h0 aB cB f x th)) (hk : ∀ q : Nat, q < H.size → ¬ va_A (pz_MW h0 aB cB f x th) H.size q → H1[q]? = H[q]?) (hF : ∀ q, va_A (pz_MW h0 aB cB f x th) H.size q → A q) (hP1 : va_P D vwCl (pz_MW h0 aB cB f' x' th') H1) (hD1 : va_D (va_A (pz_MW h0 aB cB f x th) H.size) (pz_MW h0 aB cB f' x' th')) : va_P D vwCl (pz_WW a cJ cD dk su bl pt py o ov h0 aB cB f' x' th') H1 ∧ va_D A (pz_WW a cJ cD dk su bl pt py o ov h0 aB cB f' x' th') :=
  va_join (wr := pz_LX a cJ cD dk su bl pt py o ov) (w1 := pz_MW h0 aB cB f' x' th') hP hD [22, 23] [0, 1, 2, 3, 4, 5, 6, 7, 8, 9, 10, 11, 12, 13, 14, 15, 16, 17, 18, 19, 20, 21] rfl rfl (by decide) (by decide) hk hF hP1 hD1
theorem pz_Inv.m {dk : Nat → pz_Dk} {su : pz_Su} {x : pz_Mu} (h : pz_Inv dk su x) : pz_mr x ≤ 150 ∧ pz_mF x ≤ 2 ∧ pz_mw x ≤ 10 ∧ pz_mc x ≤ 200 ∧ (∀ e, pz_ms x = some e → e < 5) ∧ (pz_ms x ≠ none → pz_mr x < 150) := by
  obtain ⟨_, ⟨s1, s2, s3⟩, _, p2, _, _, p5, p6⟩ := h
  refine ⟨?_, ?_, p5, p6, fun e h9 => (s2 e h9).1, fun h9 => ?_⟩
  · cases hs : pz_ms x with
    | none => have := (s3 hs).2; omega
    | some d => have := (s2 d hs).2.1; omega
  · rw [p2]; split
    · split <;> omega
    · omega
  · cases hs : pz_ms x with
    | none => exact absurd hs h9
    | some d => exact (s2 d hs).2.1
theorem pz_law1 {L t : Nat} (h : 5 * t + 5 ≤ L) (hL : L ≤ 2560) : ¬ nI L - nI 5 < nI (5 * t) := by
  rw [pk_sub (by omega)]; exact nI_nlt (by omega) (by omega)
theorem pz_law2 {L : Nat} (hL : L ≤ 2560) : nI L - nI 5 < nI (5 * (L / 5)) := by
  by_cases h : 5 ≤ L
  · rw [pk_sub h]; exact nI_lt (by omega) (by omega)
  · rw [show 5 * (L / 5) = 0 by omega]; exact pk_sneg (by decide) (by omega)
theorem pz_preSi {s : State} {H : Heap} {As : List Value} {D : va_G} {cl : List vw_C} {ws : va_W} {A : Nat → Prop} {tys : List (ClassId × FieldType)} (hP : va_P D cl ws H) (hK : va_K D cl tys s) (hD : va_D A ws) (hN : pz_NW s) (hO : va_AO "ParityArray$Disk" s) :
    PreS s H (va_Pc As (fun U => U.heap.size = H.size ∧ va_P D cl ws U.heap ∧ va_K D cl tys U ∧ va_D (fun _ => True) ws ∧ pz_NW U ∧ va_AO "ParityArray$Disk" U)) As :=
  ⟨fun a U g mk q => ⟨q.1, q.2.1, q.2.2.1, va_K.moved (u := U) (U := U.calling g mk a) (Vm.Alike.refl U.vm) q.2.2.2.1, q.2.2.2.2.1, pz_NW.same (u := U) (U := U.calling g mk a) rfl q.2.2.2.2.2.1, va_AO.moved (u := U) (U := U.calling g mk a) (Vm.Alike.refl U.vm) q.2.2.2.2.2.2⟩, fun U hU hW => ⟨rfl, by rw [hU], by rw [hU]; exact hP, va_K.moved hW.alike hK, hD.weaken (fun _ _ _ _ => trivial), hN.warm hW, hO.moved hW.alike⟩⟩
theorem pz_preSx {s : State} {H : Heap} {As : List Value} {D : va_G} {cl : List vw_C} {ws : va_W} {A : Nat → Prop} {tys : List (ClassId × FieldType)} {sa : Nat → Nat} (hP : va_P D cl ws H) (hK : va_K D cl tys s) (hD : va_D A ws) (hN : pz_NW s) (hR : pz_SR sa s) (hZ : pz_ZS (va_A ws H.size) s H) (hC : pz_CN s) :
    PreS s H (va_Pc As (fun U => U.heap.size = H.size ∧ va_P D cl ws U.heap ∧ va_K D cl tys U ∧ va_D (fun _ => True) ws ∧ pz_NW U ∧ pz_SR sa U ∧ pz_ZS (va_A ws H.size) U U.heap ∧ pz_CN U)) As :=
  ⟨fun a U g mk q => ⟨q.1, q.2.1, q.2.2.1, va_K.moved (u := U) (U := U.calling g mk a) (Vm.Alike.refl U.vm) q.2.2.2.1, q.2.2.2.2.1, pz_NW.same (u := U) (U := U.calling g mk a) rfl q.2.2.2.2.2.1, pz_SR.same (u := U) (U := U.calling g mk a) rfl q.2.2.2.2.2.2.1, pz_ZS.moved (u := U) (U := U.calling g mk a) (Vm.Alike.refl U.vm) q.2.2.2.2.2.2.2.1, pz_CN.moved (u := U) (U := U.calling g mk a) (Vm.Alike.refl U.vm) q.2.2.2.2.2.2.2.2⟩, fun U hU hW => ⟨rfl, by rw [hU], by rw [hU]; exact hP, va_K.moved hW.alike hK, hD.weaken (fun _ _ _ _ => trivial), hN.warm hW, hR.warm hW, by rw [hU]; exact hZ.moved hW.alike, hC.moved hW.alike⟩⟩
theorem pz_By0 : pz_By (fun _ => 0) (fun _ => 0) := by
  intro q k _ hk
  have h : ∀ k, k < 8 → pz_by 0 k = 0 := by decide
  exact (h k hk).symm
