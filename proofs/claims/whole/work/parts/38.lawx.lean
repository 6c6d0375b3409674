/-! the law's helpers: worlds, what they catch (laid by a program) -/
def pz_LX (a : pz_Ad) (cJ cD : ClassId) (dk : Nat → pz_Dk) (su : pz_Su) (bl pt py : Nat → Int64) (o : Nat) (ov : Nat → Int64) : va_W := pz_XW a cJ cD dk su bl pt py ++ [(o, .inl (cJ, 1, .inr (.inl ov)))]
theorem pz_noX {l : Launch} {y : MethodName} {ws : List Cond} {rm : Room} {Pc : Array Value → State → Prop} {Qc : Array Value → State → Outcome → State → Prop} {mc ms : Nat} {free : Addr → Prop} (h : vx_Met l y ws rm Pc Qc (fun _ _ _ => False) mc ms free) : Met l y ws rm Pc Qc mc ms free := by
  intro p e h1 h2 h3 s m args below h4 h5 h6 h7
  obtain ⟨n, o, k1, k2, k3, k4⟩ := h p e h1 h2 h3 s m args below h4 h5 h6 h7
  refine ⟨n, o, k1, k2, k3, ?_⟩
  rcases k4 with k5 | ⟨q, _, E, ce, L, k6, _⟩
  · exact k5
  · exact k6.elim
def pz_CN (U : State) : Prop := va_Nc "java/lang/IndexOutOfBoundsException" "java/lang/IllegalStateException" U ∧ va_Nc "java/lang/ArithmeticException" "java/lang/IllegalStateException" U ∧ va_Nc "java/lang/ArithmeticException" "java/lang/IndexOutOfBoundsException" U ∧ va_Nc "java/lang/IllegalStateException" "java/lang/IndexOutOfBoundsException" U
theorem pz_CN.moved {u U : State} (hvm : u.vm.Alike U.vm) (h : pz_CN u) : pz_CN U := ⟨h.1.moved hvm, h.2.1.moved hvm, h.2.2.1.moved hvm, h.2.2.2.moved hvm⟩
theorem pz_L_P {a : pz_Ad} {cJ cD : ClassId} {dk : Nat → pz_Dk} {su : pz_Su} {bl pt py : Nat → Int64} {o : Nat} {ov : Nat → Int64} {D : va_G} {H : Heap} (hP : va_P D vwCl (pz_LX a cJ cD dk su bl pt py o ov) H) : va_P D vwCl (pz_XW a cJ cD dk su bl pt py) H := hP.sub [0, 1, 2, 3, 4, 5, 6, 7, 8, 9, 10, 11, 12, 13, 14, 15, 16, 17, 18, 19, 20] rfl
theorem pz_L_D {a : pz_Ad} {cJ cD : ClassId} {dk : Nat → pz_Dk} {su : pz_Su} {bl pt py : Nat → Int64} {o : Nat} {ov : Nat → Int64} {A : Nat → Prop} (hD : va_D A (pz_LX a cJ cD dk su bl pt py o ov)) : va_D A (pz_XW a cJ cD dk su bl pt py) := hD.sub [0, 1, 2, 3, 4, 5, 6, 7, 8, 9, 10, 11, 12, 13, 14, 15, 16, 17, 18, 19, 20] (by decide) rfl
theorem pz_L_F {a : pz_Ad} {cJ cD : ClassId} {dk : Nat → pz_Dk} {su : pz_Su} {bl pt py : Nat → Int64} {o : Nat} {ov : Nat → Int64} {A : Nat → Prop} {H H0 : Heap} {locs : List Loc} (hD : va_D A (pz_LX a cJ cD dk su bl pt py o ov)) (hS : va_S A H0 H locs) (hA : ∀ q, H0.size ≤ q → A q) : ∀ q, va_A (pz_XW a cJ cD dk su bl pt py) H.size q → A q := va_free hD hS hA [0, 1, 2, 3, 4, 5, 6, 7, 8, 9, 10, 11, 12, 13, 14, 15, 16, 17, 18, 19, 20] rfl
set_option maxHeartbeats 4000000 in
set_option maxRecDepth 100000 in
theorem pz_L_J {a : pz_Ad} {cJ cD : ClassId} {dk : Nat → pz_Dk} {su : pz_Su} {bl pt py : Nat → Int64} {o : Nat} {ov : Nat → Int64} {D : va_G} {A : Nat → Prop} {H H1 : Heap} {dk' : Nat → pz_Dk} {su' : pz_Su} {bl' pt' py' : Nat → Int64} (hP : va_P D vwCl (pz_LX a cJ cD dk su bl pt py o ov) H) (hD : va_D A (pz_LX a cJ cD dk su bl pt py o ov)) (hk : ∀ q : Nat, q < H.size → ¬ va_A (pz_XW a cJ cD dk su bl pt py) H.size q → H1[q]? = H[q]?) (hF : ∀ q, va_A (pz_XW a cJ cD dk su bl pt py) H.size q → A q) (hP1 : va_P D vwCl (pz_XW a cJ cD dk' su' bl' pt' py') H1) (hD1 : va_D (va_A (pz_XW a cJ cD dk su bl pt py) H.size) (pz_XW a cJ cD dk' su' bl' pt' py')) : va_P D vwCl (pz_LX a cJ cD dk' su' bl' pt' py' o ov) H1 ∧ va_D A (pz_LX a cJ cD dk' su' bl' pt' py' o ov) := by
  obtain ⟨hP2, hD2⟩ := va_join (wr := [(o, .inl (cJ, 1, .inr (.inl ov)))]) (w1 := pz_XW a cJ cD dk' su' bl' pt' py') hP hD [0, 1, 2, 3, 4, 5, 6, 7, 8, 9, 10, 11, 12, 13, 14, 15, 16, 17, 18, 19, 20] [21] rfl rfl (by decide) (by decide) hk hF hP1 hD1
  exact ⟨hP2.sub [1, 2, 3, 4, 5, 6, 7, 8, 9, 10, 11, 12, 13, 14, 15, 16, 17, 18, 19, 20, 21, 0] rfl, hD2.sub [1, 2, 3, 4, 5, 6, 7, 8, 9, 10, 11, 12, 13, 14, 15, 16, 17, 18, 19, 20, 21, 0] (by decide) rfl⟩
theorem pz_preVx {s : State} {H : Heap} {C : String} {b : Nat} {As : List Value} {D : va_G} {cl : List vw_C} {ws : va_W} {A : Nat → Prop} {tys : List (ClassId × FieldType)} {sa : Nat → Nat} (hr : ∃ cellB : Cell, H[b]? = some cellB ∧ cellB.vm.isStatics = false ∧ s.vm.findClass C = some cellB.cls) (hP : va_P D cl ws H) (hK : va_K D cl tys s) (hD : va_D A ws) (hN : pz_NW s) (hR : pz_SR sa s) (hZ : pz_ZS (va_A ws H.size) s H) :
    PreV s H C b (va_Pc (.ref b :: As) (fun U => U.heap.size = H.size ∧ va_P D cl ws U.heap ∧ va_K D cl tys U ∧ va_D (fun _ => True) ws ∧ pz_NW U ∧ pz_SR sa U ∧ pz_ZS (va_A ws H.size) U U.heap)) As :=
  ⟨fun a U g mk q => ⟨q.1, q.2.1, q.2.2.1, va_K.moved (u := U) (U := U.calling g mk a) (Vm.Alike.refl U.vm) q.2.2.2.1, q.2.2.2.2.1, pz_NW.same (u := U) (U := U.calling g mk a) rfl q.2.2.2.2.2.1, pz_SR.same (u := U) (U := U.calling g mk a) rfl q.2.2.2.2.2.2.1, pz_ZS.moved (u := U) (U := U.calling g mk a) (Vm.Alike.refl U.vm) q.2.2.2.2.2.2.2⟩, hr, fun U hU hW => ⟨rfl, by rw [hU], by rw [hU]; exact hP, va_K.moved hW.alike hK, hD.weaken (fun _ _ _ _ => trivial), hN.warm hW, hR.warm hW, by rw [hU]; exact hZ.moved hW.alike⟩⟩
theorem pz_gS_c (x : pz_Mu) (n i : Int32) (w : Int64) : (pz_gS x n i w).2.2 ≤ 3 := by
  unfold pz_gS
  split
  · simp
  · split
    · simp
    · show (if pz_mF x = 1 then 3 else 0) ≤ 3
      split <;> decide
theorem pz_gG_c (x : pz_Mu) (n i : Int32) : (pz_gG x n i).2 ≤ 2 := by
  unfold pz_gG
  split
  · simp
  · split <;> simp
theorem pz_gD_c (x : pz_Mu) (d : Int32) : (pz_gD x d).2 ≤ 2 := by
  unfold pz_gD
  split
  · simp
  · split <;> simp
theorem pz_gR_c (x : pz_Mu) : (pz_gR x).2.2 ≤ 1 := by unfold pz_gR; split <;> simp
theorem pz_gB_c (x : pz_Mu) : (pz_gB x).2.2 ≤ 1 := by unfold pz_gB; split <;> simp
theorem pz_gP_c (x : pz_Mu) (k b : Int32) (r : Bool) : (pz_gP x k b r).2 ≤ 1 := by unfold pz_gP; split <;> simp
theorem pz_gT_c (x : pz_Mu) (w : Int32) : (pz_gT x w).2 ≤ 1 := by unfold pz_gT; split <;> simp
