/-- a start with the out array: three array classes -/
def zKJ (D : va_G) (cZ cI cJ : ClassId) (U : State) : Prop := va_K D vwCl [(cZ, .boolean), (cI, .int), (cJ, .long)] U ∧ nst U
theorem zKJ.call {D : va_G} {cZ cI cJ : ClassId} {U : State} {g : JFrame} {mk : MethodId} {a : Array Value} (h : zKJ D cZ cI cJ U) : zKJ D cZ cI cJ (U.calling g mk a) := ⟨va_K.moved (u := U) (U := U.calling g mk a) (Vm.Alike.refl U.vm) h.1, h.2.same (U := U.calling g mk a) rfl⟩
theorem zKJ.warm {D : va_G} {cZ cI cJ : ClassId} {s U : State} (hW : s.WarmedH U.vm) (h : zKJ D cZ cI cJ s) : zKJ D cZ cI cJ U := ⟨va_K.moved hW.alike h.1, h.2.warm hW⟩
theorem zKJ.two {D : va_G} {cZ cI cJ : ClassId} {U : State} (h : zKJ D cZ cI cJ U) : zK D cZ cI U := ⟨h.1.sub [0, 1] rfl, h.2⟩
def WjP (D : va_G) (cZ cI cJ : ClassId) (av : List Value) (ws : va_W) (sz : Nat) : Array Value → State → Prop := va_Pc av (fun U => U.heap.size = sz ∧ va_P D vwCl ws U.heap ∧ zKJ D cZ cI cJ U ∧ va_D (fun _ => True) ws)
theorem WjP_blind {D : va_G} {cZ cI cJ : ClassId} {av : List Value} {ws : va_W} {sz : Nat} : FrameBlind (WjP D cZ cI cJ av ws sz) := by
  intro a U g mk h
  obtain ⟨h1, h0, h2, h3, h4⟩ := h
  exact ⟨h1, h0, h2, h3.call, h4⟩
theorem WjP_start {D : va_G} {cZ cI cJ : ClassId} {av : List Value} {ws : va_W} {A : Nat → Prop} {s : State} {H : Heap} (hP : va_P D vwCl ws H) (hD : va_D A ws) (hZ : zKJ D cZ cI cJ s) : ∀ U : State, U.heap = H → s.WarmedH U.vm → WjP D cZ cI cJ av ws H.size av.toArray U := by
  intro U hU hW
  exact ⟨rfl, by rw [hU], by rw [hU]; exact hP, hZ.warm hW, hD.weaken (fun _ _ _ _ => trivial)⟩
set_option maxHeartbeats 4000000 in
set_option maxRecDepth 100000 in
theorem w_L_addRoom (l : Launch) (D : va_G) (cZ cI cJ : ClassId) (a : Nat) (o : Nat → Nat) (o' : Nat → Nat) (q : Nat → Nat) (κ : CS) (ω : OS) (ω' : OS) (σ : HS) (u sz : Nat) (f9 : Nat → Int64) (b : Bool) (hσ : zOk σ) (h8 : zN σ < 8) : vx_Met l yL_addRoom wsL_addRoom ({ frames := 5, cells := 0, slots := 0, locals := 120 }) (WjP D cZ cI cJ [.ref a, .int (bI b), .ref u] (pD cZ cI a o o' q κ ω ω' σ ++ [(u, .inl (cJ, 1, .inr (.inl f9)))]) sz) (WrI D (pD cZ cI a o o' q κ (lookW (zN σ + 1, zM σ, va_up (zS σ) (zN σ) b, zC σ, zF σ, zG σ, zP σ, zT σ, zL σ) none ω, (lookR (zN σ + 1, zM σ, va_up (zS σ) (zN σ) b, zC σ, zF σ, zG σ, zP σ, zT σ, zL σ) none ω).1, (lookR (zN σ + 1, zM σ, va_up (zS σ) (zN σ) b, zC σ, zF σ, zG σ, zP σ, zT σ, zL σ) none ω).2.1, (lookR (zN σ + 1, zM σ, va_up (zS σ) (zN σ) b, zC σ, zF σ, zG σ, zP σ, zT σ, zL σ) none ω).2.2.1) ω' (zN σ + 1, zM σ, va_up (zS σ) (zN σ) b, zC σ, zF σ, zG σ, zP σ, zT σ, zL σ) ++ [(u, .inl (cJ, 1, .inr (.inl (vp_updL f9 (nI 0).toNatClampNeg (nI (zN σ + 1 - 1)).toInt64))))]) (va_A (pD cZ cI a o o' q κ ω ω' σ ++ [(u, .inl (cJ, 1, .inr (.inl f9)))]) sz) (nI 0)) (fun _ _ _ => False) 0 0 (va_A (pD cZ cI a o o' q κ ω ω' σ ++ [(u, .inl (cJ, 1, .inr (.inl f9)))]) sz) := by
  refine vx_ofWH (cc := cL_addRoom) (maxL := 4) (ret := (some .int)) (by decide) rfl ?_
  intro p e s m args below meth c s₁ B hml hv
  obtain ⟨rfl, hsz, hP, hZ, hD0⟩ := hv
  have hx := B.exec
  have hb := B.bytes
  have hr := B.returns
  have hts := atoms_spec (ws := wsL_addRoom) B.pre
  have hown : s.vm.findClass RL = some m.cls := findClass_of_methodNamed B.named
  subst hsz
  have hD := hD0.self (sz := s.heap.size)
  generalize hAe : va_A (pD cZ cI a o o' q κ ω ω' σ ++ [(u, .inl (cJ, 1, .inr (.inl f9)))]) s.heap.size = A at hD ⊢
  have hA : ∀ q : Nat, s.heap.size ≤ q → A q := fun q h => by rw [← hAe]; exact Or.inr h
  have hS : va_S A s.heap s.heap [] := va_S.rf
  have hP : va_P D vwCl (pD cZ cI a o o' q κ ω ω' σ ++ [(u, .inl (cJ, 1, .inr (.inl f9)))]) s.heap := hP
  have hl := lv_entry ([.ref a, .int (bI b), .ref u]) (n := 4) (Nat.le_of_ble_eq_true rfl)
  rw [lg_entry_eq]
  generalize (lg_sl ([.ref a, .int (bI b), .ref u]) ++ List.replicate (4 - (lg_sl ([.ref a, .int (bI b), .ref u])).length) Slot.unset).toArray = ls at hl ⊢
  have hl : lv_has ls 4 [(0, .ref a), (1, .int (bI b)), (2, .ref u)] := hl
  refine lv_aload_n hx hb dL_addRoom_0 rfl (lv_at hl 2 rfl) ?_
  refine lv_iconst (v := nI 0) hx hb dL_addRoom_1 (by decide) ?_
  refine lv_aload_n hx hb dL_addRoom_2 rfl (lv_at hl 0 rfl) ?_
  refine lv_iload_n hx hb dL_addRoom_3 rfl (lv_at hl 1 rfl) ?_
  have hPc := hP.sub (ws' := pD cZ cI a o o' q κ ω ω' σ) [0, 1, 2, 3, 4, 5, 6, 7, 8, 9, 10, 11, 12, 13, 14, 15, 16, 17, 18] rfl
  have hDc := hD.sub (ws' := pD cZ cI a o o' q κ ω ω' σ) [0, 1, 2, 3, 4, 5, 6, 7, 8, 9, 10, 11, 12, 13, 14, 15, 16, 17, 18] (by decide) rfl
  have hFc := va_free (wc := pD cZ cI a o o' q κ ω ω' σ) hD hS hA [0, 1, 2, 3, 4, 5, 6, 7, 8, 9, 10, 11, 12, 13, 14, 15, 16, 17, 18] rfl
  refine va_calli (va_runV (As := [.int (bI b)]) (rest := [.int (nI 0), .ref u]) ⟨hx, hb, hml, hown, hts⟩ (c_X2_addRoom l D cZ cI a o o' q κ ω ω' σ s.heap.size b hσ h8) (cwV 1 hts gL_addRoom_X2_addRoom rfl rfl rfl (by decide +kernel) ⟨Nat.le_of_ble_eq_true rfl, Nat.le_of_ble_eq_true rfl⟩) ⟨WrP_blind, va_recv hZ.1 hP (ci := 2) (q0 := 0) rfl rfl, WrP_start hPc hDc hZ.two⟩ rfl rfl hl.1 rfl (lv_room (Nat.le_of_ble_eq_true rfl)) dL_addRoom_4 ⟨Nat.le_of_ble_eq_true rfl, Nat.le_of_ble_eq_true rfl⟩) hS (fun q _ h => hFc q h) hFc (fun r9 un t H1 locs ht hvm hw hB hz1 hk1 hS => ?_)
  obtain ⟨hP1, hD1⟩ := hB
  rw [ht] at hP1
  obtain ⟨hP, hD⟩ := va_join (wr := [(u, .inl (cJ, 1, .inr (.inl f9)))]) (w1 := pD cZ cI a o o' q κ (lookW (zN σ + 1, zM σ, va_up (zS σ) (zN σ) b, zC σ, zF σ, zG σ, zP σ, zT σ, zL σ) none ω, (lookR (zN σ + 1, zM σ, va_up (zS σ) (zN σ) b, zC σ, zF σ, zG σ, zP σ, zT σ, zL σ) none ω).1, (lookR (zN σ + 1, zM σ, va_up (zS σ) (zN σ) b, zC σ, zF σ, zG σ, zP σ, zT σ, zL σ) none ω).2.1, (lookR (zN σ + 1, zM σ, va_up (zS σ) (zN σ) b, zC σ, zF σ, zG σ, zP σ, zT σ, zL σ) none ω).2.2.1) ω' (zN σ + 1, zM σ, va_up (zS σ) (zN σ) b, zC σ, zF σ, zG σ, zP σ, zT σ, zL σ)) hP hD [0, 1, 2, 3, 4, 5, 6, 7, 8, 9, 10, 11, 12, 13, 14, 15, 16, 17, 18] [19] rfl rfl (by decide) (by decide) hk1 hFc hP1 hD1
  generalize H1 = H at hP hS ⊢
  subst hw
  refine lv_i2l (v := (nI (zN σ + 1 - 1)).toInt64) hx hb dL_addRoom_7 rfl ?_
  refine va_last hx hb hZ.1 hP hD hS 0 2 rfl rfl (nI_in (by decide) (by decide)) dL_addRoom_8 (fun H locs hP hD hS => ?_)
  refine lv_goto (tgt := 15) hx hb dL_addRoom_9 (by decide) ?_
  refine lv_iconst (v := nI 0) hx hb dL_addRoom_15 (by decide) ?_
  have hP9 := hP.sub (ws' := pD cZ cI a o o' q κ (lookW (zN σ + 1, zM σ, va_up (zS σ) (zN σ) b, zC σ, zF σ, zG σ, zP σ, zT σ, zL σ) none ω, (lookR (zN σ + 1, zM σ, va_up (zS σ) (zN σ) b, zC σ, zF σ, zG σ, zP σ, zT σ, zL σ) none ω).1, (lookR (zN σ + 1, zM σ, va_up (zS σ) (zN σ) b, zC σ, zF σ, zG σ, zP σ, zT σ, zL σ) none ω).2.1, (lookR (zN σ + 1, zM σ, va_up (zS σ) (zN σ) b, zC σ, zF σ, zG σ, zP σ, zT σ, zL σ) none ω).2.2.1) ω' (zN σ + 1, zM σ, va_up (zS σ) (zN σ) b, zC σ, zF σ, zG σ, zP σ, zT σ, zL σ) ++ [(u, .inl (cJ, 1, .inr (.inl (vp_updL f9 (nI 0).toNatClampNeg (nI (zN σ + 1 - 1)).toInt64))))]) [1, 2, 3, 4, 5, 6, 7, 8, 9, 10, 11, 12, 13, 14, 15, 16, 17, 18, 19, 0] rfl
  have hD9 := hD.sub (ws' := pD cZ cI a o o' q κ (lookW (zN σ + 1, zM σ, va_up (zS σ) (zN σ) b, zC σ, zF σ, zG σ, zP σ, zT σ, zL σ) none ω, (lookR (zN σ + 1, zM σ, va_up (zS σ) (zN σ) b, zC σ, zF σ, zG σ, zP σ, zT σ, zL σ) none ω).1, (lookR (zN σ + 1, zM σ, va_up (zS σ) (zN σ) b, zC σ, zF σ, zG σ, zP σ, zT σ, zL σ) none ω).2.1, (lookR (zN σ + 1, zM σ, va_up (zS σ) (zN σ) b, zC σ, zF σ, zG σ, zP σ, zT σ, zL σ) none ω).2.2.1) ω' (zN σ + 1, zM σ, va_up (zS σ) (zN σ) b, zC σ, zF σ, zG σ, zP σ, zT σ, zL σ) ++ [(u, .inl (cJ, 1, .inr (.inl (vp_updL f9 (nI 0).toNatClampNeg (nI (zN σ + 1 - 1)).toInt64))))]) [1, 2, 3, 4, 5, 6, 7, 8, 9, 10, 11, 12, 13, 14, 15, 16, 17, 18, 19, 0] (by decide) rfl
  exact vx_ret (W.iret (v := nI 0) hx hb hr (fun t ht hW => ⟨⟨_, (), rfl, rfl, by rw [ht]; exact hP9, hD9⟩, hS.F ht⟩) hS.2.2 dL_addRoom_16)
