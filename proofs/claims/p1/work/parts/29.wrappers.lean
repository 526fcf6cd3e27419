/-! ===== the law's wrappers on a fresh object: what they catch ===== -/
def xcT (U : State) : Prop := va_Nw (.castable xnI xnI) U ∧ va_Nw (.castable xnA xnA) U ∧ va_Nw (.castable xnS xnS) U ∧ va_Nc xnS xnA U
theorem xcT.warm {s U : State} (hW : s.WarmedH U.vm) (h : xcT s) : xcT U := ⟨h.1.warmC hW, h.2.1.warmC hW, h.2.2.1.warmC hW, h.2.2.2.moved hW.alike⟩
theorem xcT.same {s U : State} (hv : U.vm = s.vm) (h : xcT s) : xcT U := ⟨va_Nw.same rfl hv.symm h.1, va_Nw.same rfl hv.symm h.2.1, va_Nw.same rfl hv.symm h.2.2.1, h.2.2.2.moved (by rw [hv]; exact Vm.Alike.refl s.vm)⟩
def XwP (D : va_G) (cZ cI : ClassId) (av : List Value) (ws : va_W) (sz : Nat) : Array Value → State → Prop := va_Pc av (fun U => U.heap.size = sz ∧ va_P D vwCl ws U.heap ∧ zK D cZ cI U ∧ exT U ∧ exS U U.heap ∧ xcT U ∧ va_D (fun _ => True) ws)
theorem XwP_blind {D : va_G} {cZ cI : ClassId} {av : List Value} {ws : va_W} {sz : Nat} : FrameBlind (XwP D cZ cI av ws sz) := by
  intro a U g mk h
  obtain ⟨h1, h0, h2, h3, h4, h5, h6, h7⟩ := h
  exact ⟨h1, h0, h2, h3.call, exT.same (s := U) (U := U.calling g mk a) rfl h4, h5.call, xcT.same (s := U) (U := U.calling g mk a) rfl h6, h7⟩
theorem XwP_start {D : va_G} {cZ cI : ClassId} {av : List Value} {ws : va_W} {A : Nat → Prop} {s : State} {H : Heap} (hP : va_P D vwCl ws H) (hD : va_D A ws) (hZ : zK D cZ cI s) (hT : exT s) (hE : exS s H) (hC : xcT s) : ∀ U : State, U.heap = H → s.WarmedH U.vm → XwP D cZ cI av ws H.size av.toArray U := by
  intro U hU hW
  exact ⟨rfl, by rw [hU], by rw [hU]; exact hP, hZ.warm hW, hT.warm hW, by rw [hU]; exact hE.warm hW, hC.warm hW, hD.weaken (fun _ _ _ _ => trivial)⟩
set_option maxHeartbeats 4000000 in
set_option maxRecDepth 100000 in
theorem w_L_addDoor (l : Launch) (hl9 : l.stackTraces = false) (D : va_G) (cZ cI : ClassId) (a : Nat) (o : Nat → Nat) (o' : Nat → Nat) (q : Nat → Nat) (κ : CS) (ω : OS) (ω' : OS) (σ : HS) (u sz : Nat) (x y z v : Int32) (hz : zN σ = 0) : vx_Met l yL_addDoor wsL_addDoor ({ frames := 8, cells := 1, slots := 6, locals := 146 }) (XwP D cZ cI [.ref a, .int x, .int y, .int z, .int v, .ref u] (pD cZ cI a o o' q κ ω ω' σ) sz) (WrI D (pD cZ cI a o o' q κ ω ω' σ) (va_A (pD cZ cI a o o' q κ ω ω' σ) sz) (nI 1)) (fun _ _ _ => False) 1 6 (va_A (pD cZ cI a o o' q κ ω ω' σ) sz) := by
  refine vx_ofWH (cc := cL_addDoor) (maxL := 7) (ret := (some .int)) (by decide) rfl ?_
  intro p e s m args below meth c s₁ B hml hv
  obtain ⟨rfl, hsz, hP, hZ, hTx, hE, hC, hD0⟩ := hv
  have hx := B.exec
  have hb := B.bytes
  have hr := B.returns
  have hts := atoms_spec (ws := wsL_addDoor) B.pre
  have hown : s.vm.findClass RL = some m.cls := findClass_of_methodNamed B.named
  have htb := vx_table (x := yL_addDoor) B (hts (.codeWith yL_addDoor cL_addDoor 7 (some .int) [(0, 14, 17, 19), (0, 14, 21, 21), (0, 14, 25, 13)]) (by decide +kernel))
  subst hsz
  have hD := hD0.self (sz := s.heap.size)
  generalize hAe : va_A (pD cZ cI a o o' q κ ω ω' σ) s.heap.size = A at hD ⊢
  have hP : va_P D vwCl (pD cZ cI a o o' q κ ω ω' σ) s.heap := hP
  have hl := lv_entry ([.ref a, .int x, .int y, .int z, .int v, .ref u]) (n := 7) (Nat.le_of_ble_eq_true rfl)
  rw [lg_entry_eq]
  generalize (lg_sl ([.ref a, .int x, .int y, .int z, .int v, .ref u]) ++ List.replicate (7 - (lg_sl ([.ref a, .int x, .int y, .int z, .int v, .ref u])).length) Slot.unset).toArray = ls at hl ⊢
  have hl : lv_has ls 7 [(0, .ref a), (1, .int x), (2, .int y), (3, .int z), (4, .int v), (5, .ref u)] := hl
  refine lv_aload hx hb dL_addDoor_0 (lv_at hl 5 rfl) ?_
  refine lv_iconst (v := nI 0) hx hb dL_addDoor_2 (by decide) ?_
  refine lv_aload_n hx hb dL_addDoor_3 rfl (lv_at hl 0 rfl) ?_
  refine lv_iload_n hx hb dL_addDoor_4 rfl (lv_at hl 1 rfl) ?_
  refine lv_iload_n hx hb dL_addDoor_5 rfl (lv_at hl 2 rfl) ?_
  refine lv_iload_n hx hb dL_addDoor_6 rfl (lv_at hl 3 rfl) ?_
  refine lv_iload hx hb dL_addDoor_7 (lv_at hl 4 rfl) ?_
  refine xr_call (vx_runV (As := [.int x, .int y, .int z, .int v]) (rest := [.int (nI 0), .ref u]) ⟨hx, hb, hml, hown, hts⟩ (x_X2_addDoor l hl9 D cZ cI a o o' q κ ω ω' σ x y z v hz) (cwV 4 hts gL_addDoor_X2_addDoor rfl rfl rfl (by decide +kernel) ⟨Nat.le_of_ble_eq_true rfl, Nat.le_of_ble_eq_true rfl⟩) ⟨XrP_blind, va_recv hZ.1 hP (ci := 2) (q0 := 0) rfl rfl, XrP_start hP hZ hTx hE⟩ rfl rfl hl.1 rfl (lv_room (Nat.le_of_ble_eq_true rfl)) dL_addDoor_9 ⟨Nat.le_of_ble_eq_true rfl, Nat.le_of_ble_eq_true rfl⟩) (fun ce q9 H1 hz1 hk1 hce hcv hcl => ?_)
  have hS : va_S A s.heap H1 [] := ⟨hz1, fun q hq _ => hk1 q hq, fun _ h => by cases h⟩
  have hP9 : va_P D vwCl (pD cZ cI a o o' q κ ω ω' σ) H1 := hP.kept (fun k q hk => hk1 q.1 (hP k q hk).lt)
  refine vx_catch (own := RL) (name := xnI) hown [] ⟨0, 14, 17, 19⟩ [⟨0, 14, 21, 21⟩, ⟨0, 14, 25, 13⟩] htb (by intro z h; cases h) rfl (by decide) (hts (.classLink RL 19 xnI) (by decide +kernel)) (hC.1.use rfl) hce hcv hcl ?_
  refine lv_astore (lv' := [(6, .ref q9), (0, .ref a), (1, .int x), (2, .int y), (3, .int z), (4, .int v), (5, .ref u)]) hx hb dL_addDoor_17 hl (by decide) rfl (fun ls hl => ?_)
  refine lv_iconst (v := nI 1) hx hb dL_addDoor_19 (by decide) ?_
  exact vx_ret (W.iret (v := nI 1) hx hb hr (fun t ht hW => ⟨⟨_, (), rfl, rfl, by rw [ht]; exact hP9, hD⟩, hS.F ht⟩) hS.2.2 dL_addDoor_20)

set_option maxHeartbeats 4000000 in
set_option maxRecDepth 100000 in
theorem w_L_turnLock (l : Launch) (hl9 : l.stackTraces = false) (D : va_G) (cZ cI : ClassId) (a : Nat) (o : Nat → Nat) (o' : Nat → Nat) (q : Nat → Nat) (κ : CS) (ω : OS) (ω' : OS) (σ : HS) (u sz : Nat) (x : Int32) (hz : zM σ = 0) : vx_Met l yL_turnLock wsL_turnLock ({ frames := 8, cells := 1, slots := 6, locals := 142 }) (XwP D cZ cI [.ref a, .int x, .ref u] (pD cZ cI a o o' q κ ω ω' σ) sz) (WrI D (pD cZ cI a o o' q κ ω ω' σ) (va_A (pD cZ cI a o o' q κ ω ω' σ) sz) (nI 1)) (fun _ _ _ => False) 1 6 (va_A (pD cZ cI a o o' q κ ω ω' σ) sz) := by
  refine vx_ofWH (cc := cL_turnLock) (maxL := 4) (ret := (some .int)) (by decide) rfl ?_
  intro p e s m args below meth c s₁ B hml hv
  obtain ⟨rfl, hsz, hP, hZ, hTx, hE, hC, hD0⟩ := hv
  have hx := B.exec
  have hb := B.bytes
  have hr := B.returns
  have hts := atoms_spec (ws := wsL_turnLock) B.pre
  have hown : s.vm.findClass RL = some m.cls := findClass_of_methodNamed B.named
  have htb := vx_table (x := yL_turnLock) B (hts (.codeWith yL_turnLock cL_turnLock 4 (some .int) [(0, 16, 19, 19)]) (by decide +kernel))
  subst hsz
  have hD := hD0.self (sz := s.heap.size)
  generalize hAe : va_A (pD cZ cI a o o' q κ ω ω' σ) s.heap.size = A at hD ⊢
  have hP : va_P D vwCl (pD cZ cI a o o' q κ ω ω' σ) s.heap := hP
  have hl := lv_entry ([.ref a, .int x, .ref u]) (n := 4) (Nat.le_of_ble_eq_true rfl)
  rw [lg_entry_eq]
  generalize (lg_sl ([.ref a, .int x, .ref u]) ++ List.replicate (4 - (lg_sl ([.ref a, .int x, .ref u])).length) Slot.unset).toArray = ls at hl ⊢
  have hl : lv_has ls 4 [(0, .ref a), (1, .int x), (2, .ref u)] := hl
  refine lv_aload_n hx hb dL_turnLock_0 rfl (lv_at hl 2 rfl) ?_
  refine lv_iconst (v := nI 0) hx hb dL_turnLock_1 (by decide) ?_
  refine lv_aload_n hx hb dL_turnLock_2 rfl (lv_at hl 0 rfl) ?_
  refine lv_iload_n hx hb dL_turnLock_3 rfl (lv_at hl 1 rfl) ?_
  refine xr_call (vx_runV (As := [.int x]) (rest := [.int (nI 0), .ref u]) ⟨hx, hb, hml, hown, hts⟩ (x_X2_turnLock l hl9 D cZ cI a o o' q κ ω ω' σ x hz) (cwV 1 hts gL_turnLock_X2_turnLock rfl rfl rfl (by decide +kernel) ⟨Nat.le_of_ble_eq_true rfl, Nat.le_of_ble_eq_true rfl⟩) ⟨XrP_blind, va_recv hZ.1 hP (ci := 2) (q0 := 0) rfl rfl, XrP_start hP hZ hTx hE⟩ rfl rfl hl.1 rfl (lv_room (Nat.le_of_ble_eq_true rfl)) dL_turnLock_4 ⟨Nat.le_of_ble_eq_true rfl, Nat.le_of_ble_eq_true rfl⟩) (fun ce q9 H1 hz1 hk1 hce hcv hcl => ?_)
  have hS : va_S A s.heap H1 [] := ⟨hz1, fun q hq _ => hk1 q hq, fun _ h => by cases h⟩
  have hP9 : va_P D vwCl (pD cZ cI a o o' q κ ω ω' σ) H1 := hP.kept (fun k q hk => hk1 q.1 (hP k q hk).lt)
  refine vx_catch (own := RL) (name := xnI) hown [] ⟨0, 16, 19, 19⟩ [] htb (by intro z h; cases h) rfl (by decide) (hts (.classLink RL 19 xnI) (by decide +kernel)) (hC.1.use rfl) hce hcv hcl ?_
  refine lv_astore_n (lv' := [(3, .ref q9), (0, .ref a), (1, .int x), (2, .ref u)]) hx hb dL_turnLock_19 rfl hl (by decide) rfl (fun ls hl => ?_)
  refine lv_iconst (v := nI 1) hx hb dL_turnLock_20 (by decide) ?_
  exact vx_ret (W.iret (v := nI 1) hx hb hr (fun t ht hW => ⟨⟨_, (), rfl, rfl, by rw [ht]; exact hP9, hD⟩, hS.F ht⟩) hS.2.2 dL_turnLock_21)

set_option maxHeartbeats 4000000 in
set_option maxRecDepth 100000 in
theorem w_L_putCheese (l : Launch) (hl9 : l.stackTraces = false) (D : va_G) (cZ cI : ClassId) (a : Nat) (o : Nat → Nat) (o' : Nat → Nat) (q : Nat → Nat) (κ : CS) (ω : OS) (ω' : OS) (σ : HS) (u sz : Nat) (x y : Int32) (hz : zN σ = 0) : vx_Met l yL_putCheese wsL_putCheese ({ frames := 8, cells := 1, slots := 6, locals := 143 }) (XwP D cZ cI [.ref a, .int x, .int y, .ref u] (pD cZ cI a o o' q κ ω ω' σ) sz) (WrI D (pD cZ cI a o o' q κ ω ω' σ) (va_A (pD cZ cI a o o' q κ ω ω' σ) sz) (nI 1)) (fun _ _ _ => False) 1 6 (va_A (pD cZ cI a o o' q κ ω ω' σ) sz) := by
  refine vx_ofWH (cc := cL_putCheese) (maxL := 5) (ret := (some .int)) (by decide) rfl ?_
  intro p e s m args below meth c s₁ B hml hv
  obtain ⟨rfl, hsz, hP, hZ, hTx, hE, hC, hD0⟩ := hv
  have hx := B.exec
  have hb := B.bytes
  have hr := B.returns
  have hts := atoms_spec (ws := wsL_putCheese) B.pre
  have hown : s.vm.findClass RL = some m.cls := findClass_of_methodNamed B.named
  have htb := vx_table (x := yL_putCheese) B (hts (.codeWith yL_putCheese cL_putCheese 5 (some .int) [(0, 10, 13, 19), (0, 10, 17, 21), (0, 10, 21, 13)]) (by decide +kernel))
  subst hsz
  have hD := hD0.self (sz := s.heap.size)
  generalize hAe : va_A (pD cZ cI a o o' q κ ω ω' σ) s.heap.size = A at hD ⊢
  have hP : va_P D vwCl (pD cZ cI a o o' q κ ω ω' σ) s.heap := hP
  have hl := lv_entry ([.ref a, .int x, .int y, .ref u]) (n := 5) (Nat.le_of_ble_eq_true rfl)
  rw [lg_entry_eq]
  generalize (lg_sl ([.ref a, .int x, .int y, .ref u]) ++ List.replicate (5 - (lg_sl ([.ref a, .int x, .int y, .ref u])).length) Slot.unset).toArray = ls at hl ⊢
  have hl : lv_has ls 5 [(0, .ref a), (1, .int x), (2, .int y), (3, .ref u)] := hl
  refine lv_aload_n hx hb dL_putCheese_0 rfl (lv_at hl 3 rfl) ?_
  refine lv_iconst (v := nI 0) hx hb dL_putCheese_1 (by decide) ?_
  refine lv_aload_n hx hb dL_putCheese_2 rfl (lv_at hl 0 rfl) ?_
  refine lv_iload_n hx hb dL_putCheese_3 rfl (lv_at hl 1 rfl) ?_
  refine lv_iload_n hx hb dL_putCheese_4 rfl (lv_at hl 2 rfl) ?_
  refine xr_call (vx_runV (As := [.int x, .int y]) (rest := [.int (nI 0), .ref u]) ⟨hx, hb, hml, hown, hts⟩ (x_X2_putCheese l hl9 D cZ cI a o o' q κ ω ω' σ x y hz) (cwV 2 hts gL_putCheese_X2_putCheese rfl rfl rfl (by decide +kernel) ⟨Nat.le_of_ble_eq_true rfl, Nat.le_of_ble_eq_true rfl⟩) ⟨XrP_blind, va_recv hZ.1 hP (ci := 2) (q0 := 0) rfl rfl, XrP_start hP hZ hTx hE⟩ rfl rfl hl.1 rfl (lv_room (Nat.le_of_ble_eq_true rfl)) dL_putCheese_5 ⟨Nat.le_of_ble_eq_true rfl, Nat.le_of_ble_eq_true rfl⟩) (fun ce q9 H1 hz1 hk1 hce hcv hcl => ?_)
  have hS : va_S A s.heap H1 [] := ⟨hz1, fun q hq _ => hk1 q hq, fun _ h => by cases h⟩
  have hP9 : va_P D vwCl (pD cZ cI a o o' q κ ω ω' σ) H1 := hP.kept (fun k q hk => hk1 q.1 (hP k q hk).lt)
  refine vx_catch (own := RL) (name := xnI) hown [] ⟨0, 10, 13, 19⟩ [⟨0, 10, 17, 21⟩, ⟨0, 10, 21, 13⟩] htb (by intro z h; cases h) rfl (by decide) (hts (.classLink RL 19 xnI) (by decide +kernel)) (hC.1.use rfl) hce hcv hcl ?_
  refine lv_astore (lv' := [(4, .ref q9), (0, .ref a), (1, .int x), (2, .int y), (3, .ref u)]) hx hb dL_putCheese_13 hl (by decide) rfl (fun ls hl => ?_)
  refine lv_iconst (v := nI 1) hx hb dL_putCheese_15 (by decide) ?_
  exact vx_ret (W.iret (v := nI 1) hx hb hr (fun t ht hW => ⟨⟨_, (), rfl, rfl, by rw [ht]; exact hP9, hD⟩, hS.F ht⟩) hS.2.2 dL_putCheese_16)

set_option maxHeartbeats 4000000 in
set_option maxRecDepth 100000 in
theorem w_L_begin (l : Launch) (hl9 : l.stackTraces = false) (D : va_G) (cZ cI : ClassId) (a : Nat) (o : Nat → Nat) (o' : Nat → Nat) (q : Nat → Nat) (κ : CS) (ω : OS) (ω' : OS) (σ : HS) (u sz : Nat) (x y : Int32) (hz : zN σ = 0) : vx_Met l yL_begin wsL_begin ({ frames := 8, cells := 1, slots := 6, locals := 143 }) (XwP D cZ cI [.ref a, .int x, .int y, .ref u] (pD cZ cI a o o' q κ ω ω' σ) sz) (WrI D (pD cZ cI a o o' q κ ω ω' σ) (va_A (pD cZ cI a o o' q κ ω ω' σ) sz) (nI 1)) (fun _ _ _ => False) 1 6 (va_A (pD cZ cI a o o' q κ ω ω' σ) sz) := by
  refine vx_ofWH (cc := cL_begin) (maxL := 5) (ret := (some .int)) (by decide) rfl ?_
  intro p e s m args below meth c s₁ B hml hv
  obtain ⟨rfl, hsz, hP, hZ, hTx, hE, hC, hD0⟩ := hv
  have hx := B.exec
  have hb := B.bytes
  have hr := B.returns
  have hts := atoms_spec (ws := wsL_begin) B.pre
  have hown : s.vm.findClass RL = some m.cls := findClass_of_methodNamed B.named
  have htb := vx_table (x := yL_begin) B (hts (.codeWith yL_begin cL_begin 5 (some .int) [(0, 10, 13, 19), (0, 10, 17, 21)]) (by decide +kernel))
  subst hsz
  have hD := hD0.self (sz := s.heap.size)
  generalize hAe : va_A (pD cZ cI a o o' q κ ω ω' σ) s.heap.size = A at hD ⊢
  have hP : va_P D vwCl (pD cZ cI a o o' q κ ω ω' σ) s.heap := hP
  have hl := lv_entry ([.ref a, .int x, .int y, .ref u]) (n := 5) (Nat.le_of_ble_eq_true rfl)
  rw [lg_entry_eq]
  generalize (lg_sl ([.ref a, .int x, .int y, .ref u]) ++ List.replicate (5 - (lg_sl ([.ref a, .int x, .int y, .ref u])).length) Slot.unset).toArray = ls at hl ⊢
  have hl : lv_has ls 5 [(0, .ref a), (1, .int x), (2, .int y), (3, .ref u)] := hl
  refine lv_aload_n hx hb dL_begin_0 rfl (lv_at hl 3 rfl) ?_
  refine lv_iconst (v := nI 0) hx hb dL_begin_1 (by decide) ?_
  refine lv_aload_n hx hb dL_begin_2 rfl (lv_at hl 0 rfl) ?_
  refine lv_iload_n hx hb dL_begin_3 rfl (lv_at hl 1 rfl) ?_
  refine lv_iload_n hx hb dL_begin_4 rfl (lv_at hl 2 rfl) ?_
  refine xr_call (vx_runV (As := [.int x, .int y]) (rest := [.int (nI 0), .ref u]) ⟨hx, hb, hml, hown, hts⟩ (x_X2_begin l hl9 D cZ cI a o o' q κ ω ω' σ x y hz) (cwV 2 hts gL_begin_X2_begin rfl rfl rfl (by decide +kernel) ⟨Nat.le_of_ble_eq_true rfl, Nat.le_of_ble_eq_true rfl⟩) ⟨XrP_blind, va_recv hZ.1 hP (ci := 2) (q0 := 0) rfl rfl, XrP_start hP hZ hTx hE⟩ rfl rfl hl.1 rfl (lv_room (Nat.le_of_ble_eq_true rfl)) dL_begin_5 ⟨Nat.le_of_ble_eq_true rfl, Nat.le_of_ble_eq_true rfl⟩) (fun ce q9 H1 hz1 hk1 hce hcv hcl => ?_)
  have hS : va_S A s.heap H1 [] := ⟨hz1, fun q hq _ => hk1 q hq, fun _ h => by cases h⟩
  have hP9 : va_P D vwCl (pD cZ cI a o o' q κ ω ω' σ) H1 := hP.kept (fun k q hk => hk1 q.1 (hP k q hk).lt)
  refine vx_catch (own := RL) (name := xnI) hown [] ⟨0, 10, 13, 19⟩ [⟨0, 10, 17, 21⟩] htb (by intro z h; cases h) rfl (by decide) (hts (.classLink RL 19 xnI) (by decide +kernel)) (hC.1.use rfl) hce hcv hcl ?_
  refine lv_astore (lv' := [(4, .ref q9), (0, .ref a), (1, .int x), (2, .int y), (3, .ref u)]) hx hb dL_begin_13 hl (by decide) rfl (fun ls hl => ?_)
  refine lv_iconst (v := nI 1) hx hb dL_begin_15 (by decide) ?_
  exact vx_ret (W.iret (v := nI 1) hx hb hr (fun t ht hW => ⟨⟨_, (), rfl, rfl, by rw [ht]; exact hP9, hD⟩, hS.F ht⟩) hS.2.2 dL_begin_16)

set_option maxHeartbeats 4000000 in
set_option maxRecDepth 100000 in
theorem w_L_go (l : Launch) (hl9 : l.stackTraces = false) (D : va_G) (cZ cI : ClassId) (a : Nat) (o : Nat → Nat) (o' : Nat → Nat) (q : Nat → Nat) (κ : CS) (ω : OS) (ω' : OS) (σ : HS) (u sz : Nat) (x : Int32) (hz : zN σ = 0) : vx_Met l yL_go wsL_go ({ frames := 8, cells := 1, slots := 6, locals := 142 }) (XwP D cZ cI [.ref a, .int x, .ref u] (pD cZ cI a o o' q κ ω ω' σ) sz) (WrI D (pD cZ cI a o o' q κ ω ω' σ) (va_A (pD cZ cI a o o' q κ ω ω' σ) sz) (nI 1)) (fun _ _ _ => False) 1 6 (va_A (pD cZ cI a o o' q κ ω ω' σ) sz) := by
  refine vx_ofWH (cc := cL_go) (maxL := 4) (ret := (some .int)) (by decide) rfl ?_
  intro p e s m args below meth c s₁ B hml hv
  obtain ⟨rfl, hsz, hP, hZ, hTx, hE, hC, hD0⟩ := hv
  have hx := B.exec
  have hb := B.bytes
  have hr := B.returns
  have hts := atoms_spec (ws := wsL_go) B.pre
  have hown : s.vm.findClass RL = some m.cls := findClass_of_methodNamed B.named
  have htb := vx_table (x := yL_go) B (hts (.codeWith yL_go cL_go 4 (some .int) [(0, 16, 19, 19), (0, 16, 22, 13)]) (by decide +kernel))
  subst hsz
  have hD := hD0.self (sz := s.heap.size)
  generalize hAe : va_A (pD cZ cI a o o' q κ ω ω' σ) s.heap.size = A at hD ⊢
  have hP : va_P D vwCl (pD cZ cI a o o' q κ ω ω' σ) s.heap := hP
  have hl := lv_entry ([.ref a, .int x, .ref u]) (n := 4) (Nat.le_of_ble_eq_true rfl)
  rw [lg_entry_eq]
  generalize (lg_sl ([.ref a, .int x, .ref u]) ++ List.replicate (4 - (lg_sl ([.ref a, .int x, .ref u])).length) Slot.unset).toArray = ls at hl ⊢
  have hl : lv_has ls 4 [(0, .ref a), (1, .int x), (2, .ref u)] := hl
  refine lv_aload_n hx hb dL_go_0 rfl (lv_at hl 2 rfl) ?_
  refine lv_iconst (v := nI 0) hx hb dL_go_1 (by decide) ?_
  refine lv_aload_n hx hb dL_go_2 rfl (lv_at hl 0 rfl) ?_
  refine lv_iload_n hx hb dL_go_3 rfl (lv_at hl 1 rfl) ?_
  refine xr_call (vx_runV (As := [.int x]) (rest := [.int (nI 0), .ref u]) ⟨hx, hb, hml, hown, hts⟩ (x_X2_go l hl9 D cZ cI a o o' q κ ω ω' σ x hz) (cwV 1 hts gL_go_X2_go rfl rfl rfl (by decide +kernel) ⟨Nat.le_of_ble_eq_true rfl, Nat.le_of_ble_eq_true rfl⟩) ⟨XrP_blind, va_recv hZ.1 hP (ci := 2) (q0 := 0) rfl rfl, XrP_start hP hZ hTx hE⟩ rfl rfl hl.1 rfl (lv_room (Nat.le_of_ble_eq_true rfl)) dL_go_4 ⟨Nat.le_of_ble_eq_true rfl, Nat.le_of_ble_eq_true rfl⟩) (fun ce q9 H1 hz1 hk1 hce hcv hcl => ?_)
  have hS : va_S A s.heap H1 [] := ⟨hz1, fun q hq _ => hk1 q hq, fun _ h => by cases h⟩
  have hP9 : va_P D vwCl (pD cZ cI a o o' q κ ω ω' σ) H1 := hP.kept (fun k q hk => hk1 q.1 (hP k q hk).lt)
  refine vx_catch (own := RL) (name := xnI) hown [] ⟨0, 16, 19, 19⟩ [⟨0, 16, 22, 13⟩] htb (by intro z h; cases h) rfl (by decide) (hts (.classLink RL 19 xnI) (by decide +kernel)) (hC.1.use rfl) hce hcv hcl ?_
  refine lv_astore_n (lv' := [(3, .ref q9), (0, .ref a), (1, .int x), (2, .ref u)]) hx hb dL_go_19 rfl hl (by decide) rfl (fun ls hl => ?_)
  refine lv_iconst (v := nI 1) hx hb dL_go_20 (by decide) ?_
  exact vx_ret (W.iret (v := nI 1) hx hb hr (fun t ht hW => ⟨⟨_, (), rfl, rfl, by rw [ht]; exact hP9, hD⟩, hS.F ht⟩) hS.2.2 dL_go_21)

set_option maxHeartbeats 4000000 in
set_option maxRecDepth 100000 in
theorem w_L_isSafe (l : Launch) (hl9 : l.stackTraces = false) (D : va_G) (cZ cI : ClassId) (a : Nat) (o : Nat → Nat) (o' : Nat → Nat) (q : Nat → Nat) (κ : CS) (ω : OS) (ω' : OS) (σ : HS) (u sz : Nat) (x : Int32) (hz : zN σ = 0) : vx_Met l yL_isSafe wsL_isSafe ({ frames := 8, cells := 1, slots := 6, locals := 142 }) (XwP D cZ cI [.ref a, .int x, .ref u] (pD cZ cI a o o' q κ ω ω' σ) sz) (WrI D (pD cZ cI a o o' q κ ω ω' σ) (va_A (pD cZ cI a o o' q κ ω ω' σ) sz) (nI 1)) (fun _ _ _ => False) 1 6 (va_A (pD cZ cI a o o' q κ ω ω' σ) sz) := by
  refine vx_ofWH (cc := cL_isSafe) (maxL := 4) (ret := (some .int)) (by decide) rfl ?_
  intro p e s m args below meth c s₁ B hml hv
  obtain ⟨rfl, hsz, hP, hZ, hTx, hE, hC, hD0⟩ := hv
  have hx := B.exec
  have hb := B.bytes
  have hr := B.returns
  have hts := atoms_spec (ws := wsL_isSafe) B.pre
  have hown : s.vm.findClass RL = some m.cls := findClass_of_methodNamed B.named
  have htb := vx_table (x := yL_isSafe) B (hts (.codeWith yL_isSafe cL_isSafe 4 (some .int) [(0, 16, 19, 19)]) (by decide +kernel))
  subst hsz
  have hD := hD0.self (sz := s.heap.size)
  generalize hAe : va_A (pD cZ cI a o o' q κ ω ω' σ) s.heap.size = A at hD ⊢
  have hP : va_P D vwCl (pD cZ cI a o o' q κ ω ω' σ) s.heap := hP
  have hl := lv_entry ([.ref a, .int x, .ref u]) (n := 4) (Nat.le_of_ble_eq_true rfl)
  rw [lg_entry_eq]
  generalize (lg_sl ([.ref a, .int x, .ref u]) ++ List.replicate (4 - (lg_sl ([.ref a, .int x, .ref u])).length) Slot.unset).toArray = ls at hl ⊢
  have hl : lv_has ls 4 [(0, .ref a), (1, .int x), (2, .ref u)] := hl
  refine lv_aload_n hx hb dL_isSafe_0 rfl (lv_at hl 2 rfl) ?_
  refine lv_iconst (v := nI 0) hx hb dL_isSafe_1 (by decide) ?_
  refine lv_aload_n hx hb dL_isSafe_2 rfl (lv_at hl 0 rfl) ?_
  refine lv_iload_n hx hb dL_isSafe_3 rfl (lv_at hl 1 rfl) ?_
  refine xr_call (vx_runV (As := [.int x]) (rest := [.int (nI 0), .ref u]) ⟨hx, hb, hml, hown, hts⟩ (x_X2_isSafe l hl9 D cZ cI a o o' q κ ω ω' σ x hz) (cwV 1 hts gL_isSafe_X2_isSafe rfl rfl rfl (by decide +kernel) ⟨Nat.le_of_ble_eq_true rfl, Nat.le_of_ble_eq_true rfl⟩) ⟨XrP_blind, va_recv hZ.1 hP (ci := 2) (q0 := 0) rfl rfl, XrP_start hP hZ hTx hE⟩ rfl rfl hl.1 rfl (lv_room (Nat.le_of_ble_eq_true rfl)) dL_isSafe_4 ⟨Nat.le_of_ble_eq_true rfl, Nat.le_of_ble_eq_true rfl⟩) (fun ce q9 H1 hz1 hk1 hce hcv hcl => ?_)
  have hS : va_S A s.heap H1 [] := ⟨hz1, fun q hq _ => hk1 q hq, fun _ h => by cases h⟩
  have hP9 : va_P D vwCl (pD cZ cI a o o' q κ ω ω' σ) H1 := hP.kept (fun k q hk => hk1 q.1 (hP k q hk).lt)
  refine vx_catch (own := RL) (name := xnI) hown [] ⟨0, 16, 19, 19⟩ [] htb (by intro z h; cases h) rfl (by decide) (hts (.classLink RL 19 xnI) (by decide +kernel)) (hC.1.use rfl) hce hcv hcl ?_
  refine lv_astore_n (lv' := [(3, .ref q9), (0, .ref a), (1, .int x), (2, .ref u)]) hx hb dL_isSafe_19 rfl hl (by decide) rfl (fun ls hl => ?_)
  refine lv_iconst (v := nI 1) hx hb dL_isSafe_20 (by decide) ?_
  exact vx_ret (W.iret (v := nI 1) hx hb hr (fun t ht hW => ⟨⟨_, (), rfl, rfl, by rw [ht]; exact hP9, hD⟩, hS.F ht⟩) hS.2.2 dL_isSafe_21)

set_option maxHeartbeats 4000000 in
set_option maxRecDepth 100000 in
theorem w_L_cheeseIn (l : Launch) (hl9 : l.stackTraces = false) (D : va_G) (cZ cI : ClassId) (a : Nat) (o : Nat → Nat) (o' : Nat → Nat) (q : Nat → Nat) (κ : CS) (ω : OS) (ω' : OS) (σ : HS) (u sz : Nat) (x : Int32) (hz : zN σ = 0) : vx_Met l yL_cheeseIn wsL_cheeseIn ({ frames := 8, cells := 1, slots := 6, locals := 142 }) (XwP D cZ cI [.ref a, .int x, .ref u] (pD cZ cI a o o' q κ ω ω' σ) sz) (WrI D (pD cZ cI a o o' q κ ω ω' σ) (va_A (pD cZ cI a o o' q κ ω ω' σ) sz) (nI 1)) (fun _ _ _ => False) 1 6 (va_A (pD cZ cI a o o' q κ ω ω' σ) sz) := by
  refine vx_ofWH (cc := cL_cheeseIn) (maxL := 4) (ret := (some .int)) (by decide) rfl ?_
  intro p e s m args below meth c s₁ B hml hv
  obtain ⟨rfl, hsz, hP, hZ, hTx, hE, hC, hD0⟩ := hv
  have hx := B.exec
  have hb := B.bytes
  have hr := B.returns
  have hts := atoms_spec (ws := wsL_cheeseIn) B.pre
  have hown : s.vm.findClass RL = some m.cls := findClass_of_methodNamed B.named
  have htb := vx_table (x := yL_cheeseIn) B (hts (.codeWith yL_cheeseIn cL_cheeseIn 4 (some .int) [(0, 9, 12, 19)]) (by decide +kernel))
  subst hsz
  have hD := hD0.self (sz := s.heap.size)
  generalize hAe : va_A (pD cZ cI a o o' q κ ω ω' σ) s.heap.size = A at hD ⊢
  have hP : va_P D vwCl (pD cZ cI a o o' q κ ω ω' σ) s.heap := hP
  have hl := lv_entry ([.ref a, .int x, .ref u]) (n := 4) (Nat.le_of_ble_eq_true rfl)
  rw [lg_entry_eq]
  generalize (lg_sl ([.ref a, .int x, .ref u]) ++ List.replicate (4 - (lg_sl ([.ref a, .int x, .ref u])).length) Slot.unset).toArray = ls at hl ⊢
  have hl : lv_has ls 4 [(0, .ref a), (1, .int x), (2, .ref u)] := hl
  refine lv_aload_n hx hb dL_cheeseIn_0 rfl (lv_at hl 2 rfl) ?_
  refine lv_iconst (v := nI 0) hx hb dL_cheeseIn_1 (by decide) ?_
  refine lv_aload_n hx hb dL_cheeseIn_2 rfl (lv_at hl 0 rfl) ?_
  refine lv_iload_n hx hb dL_cheeseIn_3 rfl (lv_at hl 1 rfl) ?_
  refine xr_call (vx_runV (As := [.int x]) (rest := [.int (nI 0), .ref u]) ⟨hx, hb, hml, hown, hts⟩ (x_X2_cheeseIn l hl9 D cZ cI a o o' q κ ω ω' σ x hz) (cwV 1 hts gL_cheeseIn_X2_cheeseIn rfl rfl rfl (by decide +kernel) ⟨Nat.le_of_ble_eq_true rfl, Nat.le_of_ble_eq_true rfl⟩) ⟨XrP_blind, va_recv hZ.1 hP (ci := 2) (q0 := 0) rfl rfl, XrP_start hP hZ hTx hE⟩ rfl rfl hl.1 rfl (lv_room (Nat.le_of_ble_eq_true rfl)) dL_cheeseIn_4 ⟨Nat.le_of_ble_eq_true rfl, Nat.le_of_ble_eq_true rfl⟩) (fun ce q9 H1 hz1 hk1 hce hcv hcl => ?_)
  have hS : va_S A s.heap H1 [] := ⟨hz1, fun q hq _ => hk1 q hq, fun _ h => by cases h⟩
  have hP9 : va_P D vwCl (pD cZ cI a o o' q κ ω ω' σ) H1 := hP.kept (fun k q hk => hk1 q.1 (hP k q hk).lt)
  refine vx_catch (own := RL) (name := xnI) hown [] ⟨0, 9, 12, 19⟩ [] htb (by intro z h; cases h) rfl (by decide) (hts (.classLink RL 19 xnI) (by decide +kernel)) (hC.1.use rfl) hce hcv hcl ?_
  refine lv_astore_n (lv' := [(3, .ref q9), (0, .ref a), (1, .int x), (2, .ref u)]) hx hb dL_cheeseIn_12 rfl hl (by decide) rfl (fun ls hl => ?_)
  refine lv_iconst (v := nI 1) hx hb dL_cheeseIn_13 (by decide) ?_
  exact vx_ret (W.iret (v := nI 1) hx hb hr (fun t ht hW => ⟨⟨_, (), rfl, rfl, by rw [ht]; exact hP9, hD⟩, hS.F ht⟩) hS.2.2 dL_cheeseIn_14)

set_option maxHeartbeats 4000000 in
set_option maxRecDepth 100000 in
theorem w_L_doorsOf (l : Launch) (hl9 : l.stackTraces = false) (D : va_G) (cZ cI : ClassId) (a : Nat) (o : Nat → Nat) (o' : Nat → Nat) (q : Nat → Nat) (κ : CS) (ω : OS) (ω' : OS) (σ : HS) (u sz : Nat) (x : Int32) (hz : zN σ = 0) : vx_Met l yL_doorsOf wsL_doorsOf ({ frames := 8, cells := 1, slots := 6, locals := 142 }) (XwP D cZ cI [.ref a, .int x, .ref u] (pD cZ cI a o o' q κ ω ω' σ) sz) (WrI D (pD cZ cI a o o' q κ ω ω' σ) (va_A (pD cZ cI a o o' q κ ω ω' σ) sz) (nI 1)) (fun _ _ _ => False) 1 6 (va_A (pD cZ cI a o o' q κ ω ω' σ) sz) := by
  refine vx_ofWH (cc := cL_doorsOf) (maxL := 4) (ret := (some .int)) (by decide) rfl ?_
  intro p e s m args below meth c s₁ B hml hv
  obtain ⟨rfl, hsz, hP, hZ, hTx, hE, hC, hD0⟩ := hv
  have hx := B.exec
  have hb := B.bytes
  have hr := B.returns
  have hts := atoms_spec (ws := wsL_doorsOf) B.pre
  have hown : s.vm.findClass RL = some m.cls := findClass_of_methodNamed B.named
  have htb := vx_table (x := yL_doorsOf) B (hts (.codeWith yL_doorsOf cL_doorsOf 4 (some .int) [(0, 9, 12, 19)]) (by decide +kernel))
  subst hsz
  have hD := hD0.self (sz := s.heap.size)
  generalize hAe : va_A (pD cZ cI a o o' q κ ω ω' σ) s.heap.size = A at hD ⊢
  have hP : va_P D vwCl (pD cZ cI a o o' q κ ω ω' σ) s.heap := hP
  have hl := lv_entry ([.ref a, .int x, .ref u]) (n := 4) (Nat.le_of_ble_eq_true rfl)
  rw [lg_entry_eq]
  generalize (lg_sl ([.ref a, .int x, .ref u]) ++ List.replicate (4 - (lg_sl ([.ref a, .int x, .ref u])).length) Slot.unset).toArray = ls at hl ⊢
  have hl : lv_has ls 4 [(0, .ref a), (1, .int x), (2, .ref u)] := hl
  refine lv_aload_n hx hb dL_doorsOf_0 rfl (lv_at hl 2 rfl) ?_
  refine lv_iconst (v := nI 0) hx hb dL_doorsOf_1 (by decide) ?_
  refine lv_aload_n hx hb dL_doorsOf_2 rfl (lv_at hl 0 rfl) ?_
  refine lv_iload_n hx hb dL_doorsOf_3 rfl (lv_at hl 1 rfl) ?_
  refine xr_call (vx_runV (As := [.int x]) (rest := [.int (nI 0), .ref u]) ⟨hx, hb, hml, hown, hts⟩ (x_X2_doorsOf l hl9 D cZ cI a o o' q κ ω ω' σ x hz) (cwV 1 hts gL_doorsOf_X2_doorsOf rfl rfl rfl (by decide +kernel) ⟨Nat.le_of_ble_eq_true rfl, Nat.le_of_ble_eq_true rfl⟩) ⟨XrP_blind, va_recv hZ.1 hP (ci := 2) (q0 := 0) rfl rfl, XrP_start hP hZ hTx hE⟩ rfl rfl hl.1 rfl (lv_room (Nat.le_of_ble_eq_true rfl)) dL_doorsOf_4 ⟨Nat.le_of_ble_eq_true rfl, Nat.le_of_ble_eq_true rfl⟩) (fun ce q9 H1 hz1 hk1 hce hcv hcl => ?_)
  have hS : va_S A s.heap H1 [] := ⟨hz1, fun q hq _ => hk1 q hq, fun _ h => by cases h⟩
  have hP9 : va_P D vwCl (pD cZ cI a o o' q κ ω ω' σ) H1 := hP.kept (fun k q hk => hk1 q.1 (hP k q hk).lt)
  refine vx_catch (own := RL) (name := xnI) hown [] ⟨0, 9, 12, 19⟩ [] htb (by intro z h; cases h) rfl (by decide) (hts (.classLink RL 19 xnI) (by decide +kernel)) (hC.1.use rfl) hce hcv hcl ?_
  refine lv_astore_n (lv' := [(3, .ref q9), (0, .ref a), (1, .int x), (2, .ref u)]) hx hb dL_doorsOf_12 rfl hl (by decide) rfl (fun ls hl => ?_)
  refine lv_iconst (v := nI 1) hx hb dL_doorsOf_13 (by decide) ?_
  exact vx_ret (W.iret (v := nI 1) hx hb hr (fun t ht hW => ⟨⟨_, (), rfl, rfl, by rw [ht]; exact hP9, hD⟩, hS.F ht⟩) hS.2.2 dL_doorsOf_14)

set_option maxHeartbeats 4000000 in
set_option maxRecDepth 100000 in
theorem w_L_isLocked (l : Launch) (hl9 : l.stackTraces = false) (D : va_G) (cZ cI : ClassId) (a : Nat) (o : Nat → Nat) (o' : Nat → Nat) (q : Nat → Nat) (κ : CS) (ω : OS) (ω' : OS) (σ : HS) (u sz : Nat) (x : Int32) (hz : zM σ = 0) : vx_Met l yL_isLocked wsL_isLocked ({ frames := 8, cells := 1, slots := 6, locals := 142 }) (XwP D cZ cI [.ref a, .int x, .ref u] (pD cZ cI a o o' q κ ω ω' σ) sz) (WrI D (pD cZ cI a o o' q κ ω ω' σ) (va_A (pD cZ cI a o o' q κ ω ω' σ) sz) (nI 1)) (fun _ _ _ => False) 1 6 (va_A (pD cZ cI a o o' q κ ω ω' σ) sz) := by
  refine vx_ofWH (cc := cL_isLocked) (maxL := 4) (ret := (some .int)) (by decide) rfl ?_
  intro p e s m args below meth c s₁ B hml hv
  obtain ⟨rfl, hsz, hP, hZ, hTx, hE, hC, hD0⟩ := hv
  have hx := B.exec
  have hb := B.bytes
  have hr := B.returns
  have hts := atoms_spec (ws := wsL_isLocked) B.pre
  have hown : s.vm.findClass RL = some m.cls := findClass_of_methodNamed B.named
  have htb := vx_table (x := yL_isLocked) B (hts (.codeWith yL_isLocked cL_isLocked 4 (some .int) [(0, 16, 19, 19)]) (by decide +kernel))
  subst hsz
  have hD := hD0.self (sz := s.heap.size)
  generalize hAe : va_A (pD cZ cI a o o' q κ ω ω' σ) s.heap.size = A at hD ⊢
  have hP : va_P D vwCl (pD cZ cI a o o' q κ ω ω' σ) s.heap := hP
  have hl := lv_entry ([.ref a, .int x, .ref u]) (n := 4) (Nat.le_of_ble_eq_true rfl)
  rw [lg_entry_eq]
  generalize (lg_sl ([.ref a, .int x, .ref u]) ++ List.replicate (4 - (lg_sl ([.ref a, .int x, .ref u])).length) Slot.unset).toArray = ls at hl ⊢
  have hl : lv_has ls 4 [(0, .ref a), (1, .int x), (2, .ref u)] := hl
  refine lv_aload_n hx hb dL_isLocked_0 rfl (lv_at hl 2 rfl) ?_
  refine lv_iconst (v := nI 0) hx hb dL_isLocked_1 (by decide) ?_
  refine lv_aload_n hx hb dL_isLocked_2 rfl (lv_at hl 0 rfl) ?_
  refine lv_iload_n hx hb dL_isLocked_3 rfl (lv_at hl 1 rfl) ?_
  refine xr_call (vx_runV (As := [.int x]) (rest := [.int (nI 0), .ref u]) ⟨hx, hb, hml, hown, hts⟩ (x_X2_isLocked l hl9 D cZ cI a o o' q κ ω ω' σ x hz) (cwV 1 hts gL_isLocked_X2_isLocked rfl rfl rfl (by decide +kernel) ⟨Nat.le_of_ble_eq_true rfl, Nat.le_of_ble_eq_true rfl⟩) ⟨XrP_blind, va_recv hZ.1 hP (ci := 2) (q0 := 0) rfl rfl, XrP_start hP hZ hTx hE⟩ rfl rfl hl.1 rfl (lv_room (Nat.le_of_ble_eq_true rfl)) dL_isLocked_4 ⟨Nat.le_of_ble_eq_true rfl, Nat.le_of_ble_eq_true rfl⟩) (fun ce q9 H1 hz1 hk1 hce hcv hcl => ?_)
  have hS : va_S A s.heap H1 [] := ⟨hz1, fun q hq _ => hk1 q hq, fun _ h => by cases h⟩
  have hP9 : va_P D vwCl (pD cZ cI a o o' q κ ω ω' σ) H1 := hP.kept (fun k q hk => hk1 q.1 (hP k q hk).lt)
  refine vx_catch (own := RL) (name := xnI) hown [] ⟨0, 16, 19, 19⟩ [] htb (by intro z h; cases h) rfl (by decide) (hts (.classLink RL 19 xnI) (by decide +kernel)) (hC.1.use rfl) hce hcv hcl ?_
  refine lv_astore_n (lv' := [(3, .ref q9), (0, .ref a), (1, .int x), (2, .ref u)]) hx hb dL_isLocked_19 rfl hl (by decide) rfl (fun ls hl => ?_)
  refine lv_iconst (v := nI 1) hx hb dL_isLocked_20 (by decide) ?_
  exact vx_ret (W.iret (v := nI 1) hx hb hr (fun t ht hW => ⟨⟨_, (), rfl, rfl, by rw [ht]; exact hP9, hD⟩, hS.F ht⟩) hS.2.2 dL_isLocked_21)

set_option maxHeartbeats 4000000 in
set_option maxRecDepth 100000 in
theorem w_L_isOpen (l : Launch) (hl9 : l.stackTraces = false) (D : va_G) (cZ cI : ClassId) (a : Nat) (o : Nat → Nat) (o' : Nat → Nat) (q : Nat → Nat) (κ : CS) (ω : OS) (ω' : OS) (σ : HS) (u sz : Nat) (x : Int32) (hz : zM σ = 0) : vx_Met l yL_isOpen wsL_isOpen ({ frames := 8, cells := 1, slots := 6, locals := 142 }) (XwP D cZ cI [.ref a, .int x, .ref u] (pD cZ cI a o o' q κ ω ω' σ) sz) (WrI D (pD cZ cI a o o' q κ ω ω' σ) (va_A (pD cZ cI a o o' q κ ω ω' σ) sz) (nI 1)) (fun _ _ _ => False) 1 6 (va_A (pD cZ cI a o o' q κ ω ω' σ) sz) := by
  refine vx_ofWH (cc := cL_isOpen) (maxL := 4) (ret := (some .int)) (by decide) rfl ?_
  intro p e s m args below meth c s₁ B hml hv
  obtain ⟨rfl, hsz, hP, hZ, hTx, hE, hC, hD0⟩ := hv
  have hx := B.exec
  have hb := B.bytes
  have hr := B.returns
  have hts := atoms_spec (ws := wsL_isOpen) B.pre
  have hown : s.vm.findClass RL = some m.cls := findClass_of_methodNamed B.named
  have htb := vx_table (x := yL_isOpen) B (hts (.codeWith yL_isOpen cL_isOpen 4 (some .int) [(0, 16, 19, 19)]) (by decide +kernel))
  subst hsz
  have hD := hD0.self (sz := s.heap.size)
  generalize hAe : va_A (pD cZ cI a o o' q κ ω ω' σ) s.heap.size = A at hD ⊢
  have hP : va_P D vwCl (pD cZ cI a o o' q κ ω ω' σ) s.heap := hP
  have hl := lv_entry ([.ref a, .int x, .ref u]) (n := 4) (Nat.le_of_ble_eq_true rfl)
  rw [lg_entry_eq]
  generalize (lg_sl ([.ref a, .int x, .ref u]) ++ List.replicate (4 - (lg_sl ([.ref a, .int x, .ref u])).length) Slot.unset).toArray = ls at hl ⊢
  have hl : lv_has ls 4 [(0, .ref a), (1, .int x), (2, .ref u)] := hl
  refine lv_aload_n hx hb dL_isOpen_0 rfl (lv_at hl 2 rfl) ?_
  refine lv_iconst (v := nI 0) hx hb dL_isOpen_1 (by decide) ?_
  refine lv_aload_n hx hb dL_isOpen_2 rfl (lv_at hl 0 rfl) ?_
  refine lv_iload_n hx hb dL_isOpen_3 rfl (lv_at hl 1 rfl) ?_
  refine xr_call (vx_runV (As := [.int x]) (rest := [.int (nI 0), .ref u]) ⟨hx, hb, hml, hown, hts⟩ (x_X2_isOpen l hl9 D cZ cI a o o' q κ ω ω' σ x hz) (cwV 1 hts gL_isOpen_X2_isOpen rfl rfl rfl (by decide +kernel) ⟨Nat.le_of_ble_eq_true rfl, Nat.le_of_ble_eq_true rfl⟩) ⟨XrP_blind, va_recv hZ.1 hP (ci := 2) (q0 := 0) rfl rfl, XrP_start hP hZ hTx hE⟩ rfl rfl hl.1 rfl (lv_room (Nat.le_of_ble_eq_true rfl)) dL_isOpen_4 ⟨Nat.le_of_ble_eq_true rfl, Nat.le_of_ble_eq_true rfl⟩) (fun ce q9 H1 hz1 hk1 hce hcv hcl => ?_)
  have hS : va_S A s.heap H1 [] := ⟨hz1, fun q hq _ => hk1 q hq, fun _ h => by cases h⟩
  have hP9 : va_P D vwCl (pD cZ cI a o o' q κ ω ω' σ) H1 := hP.kept (fun k q hk => hk1 q.1 (hP k q hk).lt)
  refine vx_catch (own := RL) (name := xnI) hown [] ⟨0, 16, 19, 19⟩ [] htb (by intro z h; cases h) rfl (by decide) (hts (.classLink RL 19 xnI) (by decide +kernel)) (hC.1.use rfl) hce hcv hcl ?_
  refine lv_astore_n (lv' := [(3, .ref q9), (0, .ref a), (1, .int x), (2, .ref u)]) hx hb dL_isOpen_19 rfl hl (by decide) rfl (fun ls hl => ?_)
  refine lv_iconst (v := nI 1) hx hb dL_isOpen_20 (by decide) ?_
  exact vx_ret (W.iret (v := nI 1) hx hb hr (fun t ht hW => ⟨⟨_, (), rfl, rfl, by rw [ht]; exact hP9, hD⟩, hS.F ht⟩) hS.2.2 dL_isOpen_21)

set_option maxHeartbeats 4000000 in
set_option maxRecDepth 100000 in
theorem w_L_turnsUntilOpen (l : Launch) (hl9 : l.stackTraces = false) (D : va_G) (cZ cI : ClassId) (a : Nat) (o : Nat → Nat) (o' : Nat → Nat) (q : Nat → Nat) (κ : CS) (ω : OS) (ω' : OS) (σ : HS) (u sz : Nat) (x : Int32) (hz : zM σ = 0) : vx_Met l yL_turnsUntilOpen wsL_turnsUntilOpen ({ frames := 8, cells := 1, slots := 6, locals := 143 }) (XwP D cZ cI [.ref a, .int x, .ref u] (pD cZ cI a o o' q κ ω ω' σ) sz) (WrI D (pD cZ cI a o o' q κ ω ω' σ) (va_A (pD cZ cI a o o' q κ ω ω' σ) sz) (nI 1)) (fun _ _ _ => False) 1 6 (va_A (pD cZ cI a o o' q κ ω ω' σ) sz) := by
  refine vx_ofWH (cc := cL_turnsUntilOpen) (maxL := 4) (ret := (some .int)) (by decide) rfl ?_
  intro p e s m args below meth c s₁ B hml hv
  obtain ⟨rfl, hsz, hP, hZ, hTx, hE, hC, hD0⟩ := hv
  have hx := B.exec
  have hb := B.bytes
  have hr := B.returns
  have hts := atoms_spec (ws := wsL_turnsUntilOpen) B.pre
  have hown : s.vm.findClass RL = some m.cls := findClass_of_methodNamed B.named
  have htb := vx_table (x := yL_turnsUntilOpen) B (hts (.codeWith yL_turnsUntilOpen cL_turnsUntilOpen 4 (some .int) [(0, 9, 12, 19)]) (by decide +kernel))
  subst hsz
  have hD := hD0.self (sz := s.heap.size)
  generalize hAe : va_A (pD cZ cI a o o' q κ ω ω' σ) s.heap.size = A at hD ⊢
  have hP : va_P D vwCl (pD cZ cI a o o' q κ ω ω' σ) s.heap := hP
  have hl := lv_entry ([.ref a, .int x, .ref u]) (n := 4) (Nat.le_of_ble_eq_true rfl)
  rw [lg_entry_eq]
  generalize (lg_sl ([.ref a, .int x, .ref u]) ++ List.replicate (4 - (lg_sl ([.ref a, .int x, .ref u])).length) Slot.unset).toArray = ls at hl ⊢
  have hl : lv_has ls 4 [(0, .ref a), (1, .int x), (2, .ref u)] := hl
  refine lv_aload_n hx hb dL_turnsUntilOpen_0 rfl (lv_at hl 2 rfl) ?_
  refine lv_iconst (v := nI 0) hx hb dL_turnsUntilOpen_1 (by decide) ?_
  refine lv_aload_n hx hb dL_turnsUntilOpen_2 rfl (lv_at hl 0 rfl) ?_
  refine lv_iload_n hx hb dL_turnsUntilOpen_3 rfl (lv_at hl 1 rfl) ?_
  refine xr_call (vx_runV (As := [.int x]) (rest := [.int (nI 0), .ref u]) ⟨hx, hb, hml, hown, hts⟩ (x_X2_turnsUntilOpen l hl9 D cZ cI a o o' q κ ω ω' σ x hz) (cwV 1 hts gL_turnsUntilOpen_X2_turnsUntilOpen rfl rfl rfl (by decide +kernel) ⟨Nat.le_of_ble_eq_true rfl, Nat.le_of_ble_eq_true rfl⟩) ⟨XrP_blind, va_recv hZ.1 hP (ci := 2) (q0 := 0) rfl rfl, XrP_start hP hZ hTx hE⟩ rfl rfl hl.1 rfl (lv_room (Nat.le_of_ble_eq_true rfl)) dL_turnsUntilOpen_4 ⟨Nat.le_of_ble_eq_true rfl, Nat.le_of_ble_eq_true rfl⟩) (fun ce q9 H1 hz1 hk1 hce hcv hcl => ?_)
  have hS : va_S A s.heap H1 [] := ⟨hz1, fun q hq _ => hk1 q hq, fun _ h => by cases h⟩
  have hP9 : va_P D vwCl (pD cZ cI a o o' q κ ω ω' σ) H1 := hP.kept (fun k q hk => hk1 q.1 (hP k q hk).lt)
  refine vx_catch (own := RL) (name := xnI) hown [] ⟨0, 9, 12, 19⟩ [] htb (by intro z h; cases h) rfl (by decide) (hts (.classLink RL 19 xnI) (by decide +kernel)) (hC.1.use rfl) hce hcv hcl ?_
  refine lv_astore_n (lv' := [(3, .ref q9), (0, .ref a), (1, .int x), (2, .ref u)]) hx hb dL_turnsUntilOpen_12 rfl hl (by decide) rfl (fun ls hl => ?_)
  refine lv_iconst (v := nI 1) hx hb dL_turnsUntilOpen_13 (by decide) ?_
  exact vx_ret (W.iret (v := nI 1) hx hb hr (fun t ht hW => ⟨⟨_, (), rfl, rfl, by rw [ht]; exact hP9, hD⟩, hS.F ht⟩) hS.2.2 dL_turnsUntilOpen_14)

set_option maxHeartbeats 4000000 in
set_option maxRecDepth 100000 in
theorem w_L_doorBetween (l : Launch) (hl9 : l.stackTraces = false) (D : va_G) (cZ cI : ClassId) (a : Nat) (o : Nat → Nat) (o' : Nat → Nat) (q : Nat → Nat) (κ : CS) (ω : OS) (ω' : OS) (σ : HS) (u sz : Nat) (x y : Int32) (hz : zN σ = 0) : vx_Met l yL_doorBetween wsL_doorBetween ({ frames := 8, cells := 1, slots := 6, locals := 143 }) (XwP D cZ cI [.ref a, .int x, .int y, .ref u] (pD cZ cI a o o' q κ ω ω' σ) sz) (WrI D (pD cZ cI a o o' q κ ω ω' σ) (va_A (pD cZ cI a o o' q κ ω ω' σ) sz) (nI 1)) (fun _ _ _ => False) 1 6 (va_A (pD cZ cI a o o' q κ ω ω' σ) sz) := by
  refine vx_ofWH (cc := cL_doorBetween) (maxL := 5) (ret := (some .int)) (by decide) rfl ?_
  intro p e s m args below meth c s₁ B hml hv
  obtain ⟨rfl, hsz, hP, hZ, hTx, hE, hC, hD0⟩ := hv
  have hx := B.exec
  have hb := B.bytes
  have hr := B.returns
  have hts := atoms_spec (ws := wsL_doorBetween) B.pre
  have hown : s.vm.findClass RL = some m.cls := findClass_of_methodNamed B.named
  have htb := vx_table (x := yL_doorBetween) B (hts (.codeWith yL_doorBetween cL_doorBetween 5 (some .int) [(0, 10, 13, 19)]) (by decide +kernel))
  subst hsz
  have hD := hD0.self (sz := s.heap.size)
  generalize hAe : va_A (pD cZ cI a o o' q κ ω ω' σ) s.heap.size = A at hD ⊢
  have hP : va_P D vwCl (pD cZ cI a o o' q κ ω ω' σ) s.heap := hP
  have hl := lv_entry ([.ref a, .int x, .int y, .ref u]) (n := 5) (Nat.le_of_ble_eq_true rfl)
  rw [lg_entry_eq]
  generalize (lg_sl ([.ref a, .int x, .int y, .ref u]) ++ List.replicate (5 - (lg_sl ([.ref a, .int x, .int y, .ref u])).length) Slot.unset).toArray = ls at hl ⊢
  have hl : lv_has ls 5 [(0, .ref a), (1, .int x), (2, .int y), (3, .ref u)] := hl
  refine lv_aload_n hx hb dL_doorBetween_0 rfl (lv_at hl 3 rfl) ?_
  refine lv_iconst (v := nI 0) hx hb dL_doorBetween_1 (by decide) ?_
  refine lv_aload_n hx hb dL_doorBetween_2 rfl (lv_at hl 0 rfl) ?_
  refine lv_iload_n hx hb dL_doorBetween_3 rfl (lv_at hl 1 rfl) ?_
  refine lv_iload_n hx hb dL_doorBetween_4 rfl (lv_at hl 2 rfl) ?_
  refine xr_call (vx_runV (As := [.int x, .int y]) (rest := [.int (nI 0), .ref u]) ⟨hx, hb, hml, hown, hts⟩ (x_X2_doorBetween l hl9 D cZ cI a o o' q κ ω ω' σ x y hz) (cwV 2 hts gL_doorBetween_X2_doorBetween rfl rfl rfl (by decide +kernel) ⟨Nat.le_of_ble_eq_true rfl, Nat.le_of_ble_eq_true rfl⟩) ⟨XrP_blind, va_recv hZ.1 hP (ci := 2) (q0 := 0) rfl rfl, XrP_start hP hZ hTx hE⟩ rfl rfl hl.1 rfl (lv_room (Nat.le_of_ble_eq_true rfl)) dL_doorBetween_5 ⟨Nat.le_of_ble_eq_true rfl, Nat.le_of_ble_eq_true rfl⟩) (fun ce q9 H1 hz1 hk1 hce hcv hcl => ?_)
  have hS : va_S A s.heap H1 [] := ⟨hz1, fun q hq _ => hk1 q hq, fun _ h => by cases h⟩
  have hP9 : va_P D vwCl (pD cZ cI a o o' q κ ω ω' σ) H1 := hP.kept (fun k q hk => hk1 q.1 (hP k q hk).lt)
  refine vx_catch (own := RL) (name := xnI) hown [] ⟨0, 10, 13, 19⟩ [] htb (by intro z h; cases h) rfl (by decide) (hts (.classLink RL 19 xnI) (by decide +kernel)) (hC.1.use rfl) hce hcv hcl ?_
  refine lv_astore (lv' := [(4, .ref q9), (0, .ref a), (1, .int x), (2, .int y), (3, .ref u)]) hx hb dL_doorBetween_13 hl (by decide) rfl (fun ls hl => ?_)
  refine lv_iconst (v := nI 1) hx hb dL_doorBetween_15 (by decide) ?_
  exact vx_ret (W.iret (v := nI 1) hx hb hr (fun t ht hW => ⟨⟨_, (), rfl, rfl, by rw [ht]; exact hP9, hD⟩, hS.F ht⟩) hS.2.2 dL_doorBetween_16)

set_option maxHeartbeats 4000000 in
set_option maxRecDepth 100000 in
theorem w_L_isWayOpen (l : Launch) (hl9 : l.stackTraces = false) (D : va_G) (cZ cI : ClassId) (a : Nat) (o : Nat → Nat) (o' : Nat → Nat) (q : Nat → Nat) (κ : CS) (ω : OS) (ω' : OS) (σ : HS) (u sz : Nat) (x y : Int32) (hz : zN σ = 0) : vx_Met l yL_isWayOpen wsL_isWayOpen ({ frames := 8, cells := 1, slots := 6, locals := 144 }) (XwP D cZ cI [.ref a, .int x, .int y, .ref u] (pD cZ cI a o o' q κ ω ω' σ) sz) (WrI D (pD cZ cI a o o' q κ ω ω' σ) (va_A (pD cZ cI a o o' q κ ω ω' σ) sz) (nI 1)) (fun _ _ _ => False) 1 6 (va_A (pD cZ cI a o o' q κ ω ω' σ) sz) := by
  refine vx_ofWH (cc := cL_isWayOpen) (maxL := 5) (ret := (some .int)) (by decide) rfl ?_
  intro p e s m args below meth c s₁ B hml hv
  obtain ⟨rfl, hsz, hP, hZ, hTx, hE, hC, hD0⟩ := hv
  have hx := B.exec
  have hb := B.bytes
  have hr := B.returns
  have hts := atoms_spec (ws := wsL_isWayOpen) B.pre
  have hown : s.vm.findClass RL = some m.cls := findClass_of_methodNamed B.named
  have htb := vx_table (x := yL_isWayOpen) B (hts (.codeWith yL_isWayOpen cL_isWayOpen 5 (some .int) [(0, 17, 20, 19)]) (by decide +kernel))
  subst hsz
  have hD := hD0.self (sz := s.heap.size)
  generalize hAe : va_A (pD cZ cI a o o' q κ ω ω' σ) s.heap.size = A at hD ⊢
  have hP : va_P D vwCl (pD cZ cI a o o' q κ ω ω' σ) s.heap := hP
  have hl := lv_entry ([.ref a, .int x, .int y, .ref u]) (n := 5) (Nat.le_of_ble_eq_true rfl)
  rw [lg_entry_eq]
  generalize (lg_sl ([.ref a, .int x, .int y, .ref u]) ++ List.replicate (5 - (lg_sl ([.ref a, .int x, .int y, .ref u])).length) Slot.unset).toArray = ls at hl ⊢
  have hl : lv_has ls 5 [(0, .ref a), (1, .int x), (2, .int y), (3, .ref u)] := hl
  refine lv_aload_n hx hb dL_isWayOpen_0 rfl (lv_at hl 3 rfl) ?_
  refine lv_iconst (v := nI 0) hx hb dL_isWayOpen_1 (by decide) ?_
  refine lv_aload_n hx hb dL_isWayOpen_2 rfl (lv_at hl 0 rfl) ?_
  refine lv_iload_n hx hb dL_isWayOpen_3 rfl (lv_at hl 1 rfl) ?_
  refine lv_iload_n hx hb dL_isWayOpen_4 rfl (lv_at hl 2 rfl) ?_
  refine xr_call (vx_runV (As := [.int x, .int y]) (rest := [.int (nI 0), .ref u]) ⟨hx, hb, hml, hown, hts⟩ (x_X2_isWayOpen l hl9 D cZ cI a o o' q κ ω ω' σ x y hz) (cwV 2 hts gL_isWayOpen_X2_isWayOpen rfl rfl rfl (by decide +kernel) ⟨Nat.le_of_ble_eq_true rfl, Nat.le_of_ble_eq_true rfl⟩) ⟨XrP_blind, va_recv hZ.1 hP (ci := 2) (q0 := 0) rfl rfl, XrP_start hP hZ hTx hE⟩ rfl rfl hl.1 rfl (lv_room (Nat.le_of_ble_eq_true rfl)) dL_isWayOpen_5 ⟨Nat.le_of_ble_eq_true rfl, Nat.le_of_ble_eq_true rfl⟩) (fun ce q9 H1 hz1 hk1 hce hcv hcl => ?_)
  have hS : va_S A s.heap H1 [] := ⟨hz1, fun q hq _ => hk1 q hq, fun _ h => by cases h⟩
  have hP9 : va_P D vwCl (pD cZ cI a o o' q κ ω ω' σ) H1 := hP.kept (fun k q hk => hk1 q.1 (hP k q hk).lt)
  refine vx_catch (own := RL) (name := xnI) hown [] ⟨0, 17, 20, 19⟩ [] htb (by intro z h; cases h) rfl (by decide) (hts (.classLink RL 19 xnI) (by decide +kernel)) (hC.1.use rfl) hce hcv hcl ?_
  refine lv_astore (lv' := [(4, .ref q9), (0, .ref a), (1, .int x), (2, .int y), (3, .ref u)]) hx hb dL_isWayOpen_20 hl (by decide) rfl (fun ls hl => ?_)
  refine lv_iconst (v := nI 1) hx hb dL_isWayOpen_22 (by decide) ?_
  exact vx_ret (W.iret (v := nI 1) hx hb hr (fun t ht hW => ⟨⟨_, (), rfl, rfl, by rw [ht]; exact hP9, hD⟩, hS.F ht⟩) hS.2.2 dL_isWayOpen_23)

set_option maxHeartbeats 4000000 in
set_option maxRecDepth 100000 in
theorem w_L_distance (l : Launch) (hl9 : l.stackTraces = false) (D : va_G) (cZ cI : ClassId) (a : Nat) (o : Nat → Nat) (o' : Nat → Nat) (q : Nat → Nat) (κ : CS) (ω : OS) (ω' : OS) (σ : HS) (u sz : Nat) (x y : Int32) (hz : zN σ = 0) : vx_Met l yL_distance wsL_distance ({ frames := 8, cells := 1, slots := 6, locals := 143 }) (XwP D cZ cI [.ref a, .int x, .int y, .ref u] (pD cZ cI a o o' q κ ω ω' σ) sz) (WrI D (pD cZ cI a o o' q κ ω ω' σ) (va_A (pD cZ cI a o o' q κ ω ω' σ) sz) (nI 1)) (fun _ _ _ => False) 1 6 (va_A (pD cZ cI a o o' q κ ω ω' σ) sz) := by
  refine vx_ofWH (cc := cL_distance) (maxL := 5) (ret := (some .int)) (by decide) rfl ?_
  intro p e s m args below meth c s₁ B hml hv
  obtain ⟨rfl, hsz, hP, hZ, hTx, hE, hC, hD0⟩ := hv
  have hx := B.exec
  have hb := B.bytes
  have hr := B.returns
  have hts := atoms_spec (ws := wsL_distance) B.pre
  have hown : s.vm.findClass RL = some m.cls := findClass_of_methodNamed B.named
  have htb := vx_table (x := yL_distance) B (hts (.codeWith yL_distance cL_distance 5 (some .int) [(0, 10, 13, 19)]) (by decide +kernel))
  subst hsz
  have hD := hD0.self (sz := s.heap.size)
  generalize hAe : va_A (pD cZ cI a o o' q κ ω ω' σ) s.heap.size = A at hD ⊢
  have hP : va_P D vwCl (pD cZ cI a o o' q κ ω ω' σ) s.heap := hP
  have hl := lv_entry ([.ref a, .int x, .int y, .ref u]) (n := 5) (Nat.le_of_ble_eq_true rfl)
  rw [lg_entry_eq]
  generalize (lg_sl ([.ref a, .int x, .int y, .ref u]) ++ List.replicate (5 - (lg_sl ([.ref a, .int x, .int y, .ref u])).length) Slot.unset).toArray = ls at hl ⊢
  have hl : lv_has ls 5 [(0, .ref a), (1, .int x), (2, .int y), (3, .ref u)] := hl
  refine lv_aload_n hx hb dL_distance_0 rfl (lv_at hl 3 rfl) ?_
  refine lv_iconst (v := nI 0) hx hb dL_distance_1 (by decide) ?_
  refine lv_aload_n hx hb dL_distance_2 rfl (lv_at hl 0 rfl) ?_
  refine lv_iload_n hx hb dL_distance_3 rfl (lv_at hl 1 rfl) ?_
  refine lv_iload_n hx hb dL_distance_4 rfl (lv_at hl 2 rfl) ?_
  refine xr_call (vx_runV (As := [.int x, .int y]) (rest := [.int (nI 0), .ref u]) ⟨hx, hb, hml, hown, hts⟩ (x_X2_distance l hl9 D cZ cI a o o' q κ ω ω' σ x y hz) (cwV 2 hts gL_distance_X2_distance rfl rfl rfl (by decide +kernel) ⟨Nat.le_of_ble_eq_true rfl, Nat.le_of_ble_eq_true rfl⟩) ⟨XrP_blind, va_recv hZ.1 hP (ci := 2) (q0 := 0) rfl rfl, XrP_start hP hZ hTx hE⟩ rfl rfl hl.1 rfl (lv_room (Nat.le_of_ble_eq_true rfl)) dL_distance_5 ⟨Nat.le_of_ble_eq_true rfl, Nat.le_of_ble_eq_true rfl⟩) (fun ce q9 H1 hz1 hk1 hce hcv hcl => ?_)
  have hS : va_S A s.heap H1 [] := ⟨hz1, fun q hq _ => hk1 q hq, fun _ h => by cases h⟩
  have hP9 : va_P D vwCl (pD cZ cI a o o' q κ ω ω' σ) H1 := hP.kept (fun k q hk => hk1 q.1 (hP k q hk).lt)
  refine vx_catch (own := RL) (name := xnI) hown [] ⟨0, 10, 13, 19⟩ [] htb (by intro z h; cases h) rfl (by decide) (hts (.classLink RL 19 xnI) (by decide +kernel)) (hC.1.use rfl) hce hcv hcl ?_
  refine lv_astore (lv' := [(4, .ref q9), (0, .ref a), (1, .int x), (2, .int y), (3, .ref u)]) hx hb dL_distance_13 hl (by decide) rfl (fun ls hl => ?_)
  refine lv_iconst (v := nI 1) hx hb dL_distance_15 (by decide) ?_
  exact vx_ret (W.iret (v := nI 1) hx hb hr (fun t ht hW => ⟨⟨_, (), rfl, rfl, by rw [ht]; exact hP9, hD⟩, hS.F ht⟩) hS.2.2 dL_distance_16)

set_option maxHeartbeats 4000000 in
set_option maxRecDepth 100000 in
theorem w_L_catArrives (l : Launch) (hl9 : l.stackTraces = false) (D : va_G) (cZ cI : ClassId) (a : Nat) (o : Nat → Nat) (o' : Nat → Nat) (q : Nat → Nat) (κ : CS) (ω : OS) (ω' : OS) (σ : HS) (u sz : Nat) (x : Int32) (hz : zN σ = 0) : vx_Met l yL_catArrives wsL_catArrives ({ frames := 8, cells := 1, slots := 6, locals := 142 }) (XwP D cZ cI [.ref a, .int x, .ref u] (pD cZ cI a o o' q κ ω ω' σ) sz) (WrI D (pD cZ cI a o o' q κ ω ω' σ) (va_A (pD cZ cI a o o' q κ ω ω' σ) sz) (nI 1)) (fun _ _ _ => False) 1 6 (va_A (pD cZ cI a o o' q κ ω ω' σ) sz) := by
  refine vx_ofWH (cc := cL_catArrives) (maxL := 4) (ret := (some .int)) (by decide) rfl ?_
  intro p e s m args below meth c s₁ B hml hv
  obtain ⟨rfl, hsz, hP, hZ, hTx, hE, hC, hD0⟩ := hv
  have hx := B.exec
  have hb := B.bytes
  have hr := B.returns
  have hts := atoms_spec (ws := wsL_catArrives) B.pre
  have hown : s.vm.findClass RL = some m.cls := findClass_of_methodNamed B.named
  have htb := vx_table (x := yL_catArrives) B (hts (.codeWith yL_catArrives cL_catArrives 4 (some .int) [(0, 9, 12, 19), (0, 9, 15, 13)]) (by decide +kernel))
  subst hsz
  have hD := hD0.self (sz := s.heap.size)
  generalize hAe : va_A (pD cZ cI a o o' q κ ω ω' σ) s.heap.size = A at hD ⊢
  have hP : va_P D vwCl (pD cZ cI a o o' q κ ω ω' σ) s.heap := hP
  have hl := lv_entry ([.ref a, .int x, .ref u]) (n := 4) (Nat.le_of_ble_eq_true rfl)
  rw [lg_entry_eq]
  generalize (lg_sl ([.ref a, .int x, .ref u]) ++ List.replicate (4 - (lg_sl ([.ref a, .int x, .ref u])).length) Slot.unset).toArray = ls at hl ⊢
  have hl : lv_has ls 4 [(0, .ref a), (1, .int x), (2, .ref u)] := hl
  refine lv_aload_n hx hb dL_catArrives_0 rfl (lv_at hl 2 rfl) ?_
  refine lv_iconst (v := nI 0) hx hb dL_catArrives_1 (by decide) ?_
  refine lv_aload_n hx hb dL_catArrives_2 rfl (lv_at hl 0 rfl) ?_
  refine lv_iload_n hx hb dL_catArrives_3 rfl (lv_at hl 1 rfl) ?_
  refine xr_call (vx_runV (As := [.int x]) (rest := [.int (nI 0), .ref u]) ⟨hx, hb, hml, hown, hts⟩ (x_X2_catArrives l hl9 D cZ cI a o o' q κ ω ω' σ x hz) (cwV 1 hts gL_catArrives_X2_catArrives rfl rfl rfl (by decide +kernel) ⟨Nat.le_of_ble_eq_true rfl, Nat.le_of_ble_eq_true rfl⟩) ⟨XrP_blind, va_recv hZ.1 hP (ci := 2) (q0 := 0) rfl rfl, XrP_start hP hZ hTx hE⟩ rfl rfl hl.1 rfl (lv_room (Nat.le_of_ble_eq_true rfl)) dL_catArrives_4 ⟨Nat.le_of_ble_eq_true rfl, Nat.le_of_ble_eq_true rfl⟩) (fun ce q9 H1 hz1 hk1 hce hcv hcl => ?_)
  have hS : va_S A s.heap H1 [] := ⟨hz1, fun q hq _ => hk1 q hq, fun _ h => by cases h⟩
  have hP9 : va_P D vwCl (pD cZ cI a o o' q κ ω ω' σ) H1 := hP.kept (fun k q hk => hk1 q.1 (hP k q hk).lt)
  refine vx_catch (own := RL) (name := xnI) hown [] ⟨0, 9, 12, 19⟩ [⟨0, 9, 15, 13⟩] htb (by intro z h; cases h) rfl (by decide) (hts (.classLink RL 19 xnI) (by decide +kernel)) (hC.1.use rfl) hce hcv hcl ?_
  refine lv_astore_n (lv' := [(3, .ref q9), (0, .ref a), (1, .int x), (2, .ref u)]) hx hb dL_catArrives_12 rfl hl (by decide) rfl (fun ls hl => ?_)
  refine lv_iconst (v := nI 1) hx hb dL_catArrives_13 (by decide) ?_
  exact vx_ret (W.iret (v := nI 1) hx hb hr (fun t ht hW => ⟨⟨_, (), rfl, rfl, by rw [ht]; exact hP9, hD⟩, hS.F ht⟩) hS.2.2 dL_catArrives_14)

set_option maxHeartbeats 4000000 in
set_option maxRecDepth 100000 in
theorem w_L_mouseArrives (l : Launch) (hl9 : l.stackTraces = false) (D : va_G) (cZ cI : ClassId) (a : Nat) (o : Nat → Nat) (o' : Nat → Nat) (q : Nat → Nat) (κ : CS) (ω : OS) (ω' : OS) (σ : HS) (u sz : Nat) (x : Int32) (hz : zN σ = 0) : vx_Met l yL_mouseArrives wsL_mouseArrives ({ frames := 8, cells := 1, slots := 6, locals := 142 }) (XwP D cZ cI [.ref a, .int x, .ref u] (pD cZ cI a o o' q κ ω ω' σ) sz) (WrI D (pD cZ cI a o o' q κ ω ω' σ) (va_A (pD cZ cI a o o' q κ ω ω' σ) sz) (nI 1)) (fun _ _ _ => False) 1 6 (va_A (pD cZ cI a o o' q κ ω ω' σ) sz) := by
  refine vx_ofWH (cc := cL_mouseArrives) (maxL := 4) (ret := (some .int)) (by decide) rfl ?_
  intro p e s m args below meth c s₁ B hml hv
  obtain ⟨rfl, hsz, hP, hZ, hTx, hE, hC, hD0⟩ := hv
  have hx := B.exec
  have hb := B.bytes
  have hr := B.returns
  have hts := atoms_spec (ws := wsL_mouseArrives) B.pre
  have hown : s.vm.findClass RL = some m.cls := findClass_of_methodNamed B.named
  have htb := vx_table (x := yL_mouseArrives) B (hts (.codeWith yL_mouseArrives cL_mouseArrives 4 (some .int) [(0, 9, 12, 19), (0, 9, 15, 13)]) (by decide +kernel))
  subst hsz
  have hD := hD0.self (sz := s.heap.size)
  generalize hAe : va_A (pD cZ cI a o o' q κ ω ω' σ) s.heap.size = A at hD ⊢
  have hP : va_P D vwCl (pD cZ cI a o o' q κ ω ω' σ) s.heap := hP
  have hl := lv_entry ([.ref a, .int x, .ref u]) (n := 4) (Nat.le_of_ble_eq_true rfl)
  rw [lg_entry_eq]
  generalize (lg_sl ([.ref a, .int x, .ref u]) ++ List.replicate (4 - (lg_sl ([.ref a, .int x, .ref u])).length) Slot.unset).toArray = ls at hl ⊢
  have hl : lv_has ls 4 [(0, .ref a), (1, .int x), (2, .ref u)] := hl
  refine lv_aload_n hx hb dL_mouseArrives_0 rfl (lv_at hl 2 rfl) ?_
  refine lv_iconst (v := nI 0) hx hb dL_mouseArrives_1 (by decide) ?_
  refine lv_aload_n hx hb dL_mouseArrives_2 rfl (lv_at hl 0 rfl) ?_
  refine lv_iload_n hx hb dL_mouseArrives_3 rfl (lv_at hl 1 rfl) ?_
  refine xr_call (vx_runV (As := [.int x]) (rest := [.int (nI 0), .ref u]) ⟨hx, hb, hml, hown, hts⟩ (x_X2_mouseArrives l hl9 D cZ cI a o o' q κ ω ω' σ x hz) (cwV 1 hts gL_mouseArrives_X2_mouseArrives rfl rfl rfl (by decide +kernel) ⟨Nat.le_of_ble_eq_true rfl, Nat.le_of_ble_eq_true rfl⟩) ⟨XrP_blind, va_recv hZ.1 hP (ci := 2) (q0 := 0) rfl rfl, XrP_start hP hZ hTx hE⟩ rfl rfl hl.1 rfl (lv_room (Nat.le_of_ble_eq_true rfl)) dL_mouseArrives_4 ⟨Nat.le_of_ble_eq_true rfl, Nat.le_of_ble_eq_true rfl⟩) (fun ce q9 H1 hz1 hk1 hce hcv hcl => ?_)
  have hS : va_S A s.heap H1 [] := ⟨hz1, fun q hq _ => hk1 q hq, fun _ h => by cases h⟩
  have hP9 : va_P D vwCl (pD cZ cI a o o' q κ ω ω' σ) H1 := hP.kept (fun k q hk => hk1 q.1 (hP k q hk).lt)
  refine vx_catch (own := RL) (name := xnI) hown [] ⟨0, 9, 12, 19⟩ [⟨0, 9, 15, 13⟩] htb (by intro z h; cases h) rfl (by decide) (hts (.classLink RL 19 xnI) (by decide +kernel)) (hC.1.use rfl) hce hcv hcl ?_
  refine lv_astore_n (lv' := [(3, .ref q9), (0, .ref a), (1, .int x), (2, .ref u)]) hx hb dL_mouseArrives_12 rfl hl (by decide) rfl (fun ls hl => ?_)
  refine lv_iconst (v := nI 1) hx hb dL_mouseArrives_13 (by decide) ?_
  exact vx_ret (W.iret (v := nI 1) hx hb hr (fun t ht hW => ⟨⟨_, (), rfl, rfl, by rw [ht]; exact hP9, hD⟩, hS.F ht⟩) hS.2.2 dL_mouseArrives_14)

set_option maxHeartbeats 4000000 in
set_option maxRecDepth 100000 in
theorem w_L_turnsFrom (l : Launch) (hl9 : l.stackTraces = false) (D : va_G) (cZ cI : ClassId) (a : Nat) (o : Nat → Nat) (o' : Nat → Nat) (q : Nat → Nat) (κ : CS) (ω : OS) (ω' : OS) (σ : HS) (u sz : Nat) (x y : Int32) (hz : zN σ = 0) : vx_Met l yL_turnsFrom wsL_turnsFrom ({ frames := 8, cells := 1, slots := 6, locals := 143 }) (XwP D cZ cI [.ref a, .int x, .int y, .ref u] (pD cZ cI a o o' q κ ω ω' σ) sz) (WrI D (pD cZ cI a o o' q κ ω ω' σ) (va_A (pD cZ cI a o o' q κ ω ω' σ) sz) (nI 1)) (fun _ _ _ => False) 1 6 (va_A (pD cZ cI a o o' q κ ω ω' σ) sz) := by
  refine vx_ofWH (cc := cL_turnsFrom) (maxL := 5) (ret := (some .int)) (by decide) rfl ?_
  intro p e s m args below meth c s₁ B hml hv
  obtain ⟨rfl, hsz, hP, hZ, hTx, hE, hC, hD0⟩ := hv
  have hx := B.exec
  have hb := B.bytes
  have hr := B.returns
  have hts := atoms_spec (ws := wsL_turnsFrom) B.pre
  have hown : s.vm.findClass RL = some m.cls := findClass_of_methodNamed B.named
  have htb := vx_table (x := yL_turnsFrom) B (hts (.codeWith yL_turnsFrom cL_turnsFrom 5 (some .int) [(0, 10, 13, 19), (0, 10, 17, 21)]) (by decide +kernel))
  subst hsz
  have hD := hD0.self (sz := s.heap.size)
  generalize hAe : va_A (pD cZ cI a o o' q κ ω ω' σ) s.heap.size = A at hD ⊢
  have hP : va_P D vwCl (pD cZ cI a o o' q κ ω ω' σ) s.heap := hP
  have hl := lv_entry ([.ref a, .int x, .int y, .ref u]) (n := 5) (Nat.le_of_ble_eq_true rfl)
  rw [lg_entry_eq]
  generalize (lg_sl ([.ref a, .int x, .int y, .ref u]) ++ List.replicate (5 - (lg_sl ([.ref a, .int x, .int y, .ref u])).length) Slot.unset).toArray = ls at hl ⊢
  have hl : lv_has ls 5 [(0, .ref a), (1, .int x), (2, .int y), (3, .ref u)] := hl
  refine lv_aload_n hx hb dL_turnsFrom_0 rfl (lv_at hl 3 rfl) ?_
  refine lv_iconst (v := nI 0) hx hb dL_turnsFrom_1 (by decide) ?_
  refine lv_aload_n hx hb dL_turnsFrom_2 rfl (lv_at hl 0 rfl) ?_
  refine lv_iload_n hx hb dL_turnsFrom_3 rfl (lv_at hl 1 rfl) ?_
  refine lv_iload_n hx hb dL_turnsFrom_4 rfl (lv_at hl 2 rfl) ?_
  refine xr_call (vx_runV (As := [.int x, .int y]) (rest := [.int (nI 0), .ref u]) ⟨hx, hb, hml, hown, hts⟩ (x_X2_turnsFrom l hl9 D cZ cI a o o' q κ ω ω' σ x y hz) (cwV 2 hts gL_turnsFrom_X2_turnsFrom rfl rfl rfl (by decide +kernel) ⟨Nat.le_of_ble_eq_true rfl, Nat.le_of_ble_eq_true rfl⟩) ⟨XrP_blind, va_recv hZ.1 hP (ci := 2) (q0 := 0) rfl rfl, XrP_start hP hZ hTx hE⟩ rfl rfl hl.1 rfl (lv_room (Nat.le_of_ble_eq_true rfl)) dL_turnsFrom_5 ⟨Nat.le_of_ble_eq_true rfl, Nat.le_of_ble_eq_true rfl⟩) (fun ce q9 H1 hz1 hk1 hce hcv hcl => ?_)
  have hS : va_S A s.heap H1 [] := ⟨hz1, fun q hq _ => hk1 q hq, fun _ h => by cases h⟩
  have hP9 : va_P D vwCl (pD cZ cI a o o' q κ ω ω' σ) H1 := hP.kept (fun k q hk => hk1 q.1 (hP k q hk).lt)
  refine vx_catch (own := RL) (name := xnI) hown [] ⟨0, 10, 13, 19⟩ [⟨0, 10, 17, 21⟩] htb (by intro z h; cases h) rfl (by decide) (hts (.classLink RL 19 xnI) (by decide +kernel)) (hC.1.use rfl) hce hcv hcl ?_
  refine lv_astore (lv' := [(4, .ref q9), (0, .ref a), (1, .int x), (2, .int y), (3, .ref u)]) hx hb dL_turnsFrom_13 hl (by decide) rfl (fun ls hl => ?_)
  refine lv_iconst (v := nI 1) hx hb dL_turnsFrom_15 (by decide) ?_
  exact vx_ret (W.iret (v := nI 1) hx hb hr (fun t ht hW => ⟨⟨_, (), rfl, rfl, by rw [ht]; exact hP9, hD⟩, hS.F ht⟩) hS.2.2 dL_turnsFrom_16)

set_option maxHeartbeats 4000000 in
set_option maxRecDepth 100000 in
theorem w_L_play_a (l : Launch) (hl9 : l.stackTraces = false) (D : va_G) (cZ cI : ClassId) (a : Nat) (o : Nat → Nat) (o' : Nat → Nat) (q : Nat → Nat) (κ : CS) (ω : OS) (ω' : OS) (σ : HS) (u sz : Nat) (x : Int32) (h : x < 1 ∨ ¬ x ≤ 60) : vx_Met l yL_play wsL_play ({ frames := 8, cells := 1, slots := 6, locals := 142 }) (XwP D cZ cI [.ref a, .int x, .ref u] (pD cZ cI a o o' q κ ω ω' σ) sz) (WrI D (pD cZ cI a o o' q κ ω ω' σ) (va_A (pD cZ cI a o o' q κ ω ω' σ) sz) (nI 1)) (fun _ _ _ => False) 1 6 (va_A (pD cZ cI a o o' q κ ω ω' σ) sz) := by
  refine vx_ofWH (cc := cL_play) (maxL := 4) (ret := (some .int)) (by decide) rfl ?_
  intro p e s m args below meth c s₁ B hml hv
  obtain ⟨rfl, hsz, hP, hZ, hTx, hE, hC, hD0⟩ := hv
  have hx := B.exec
  have hb := B.bytes
  have hr := B.returns
  have hts := atoms_spec (ws := wsL_play) B.pre
  have hown : s.vm.findClass RL = some m.cls := findClass_of_methodNamed B.named
  have htb := vx_table (x := yL_play) B (hts (.codeWith yL_play cL_play 4 (some .int) [(0, 9, 12, 21), (0, 9, 15, 13)]) (by decide +kernel))
  subst hsz
  have hD := hD0.self (sz := s.heap.size)
  generalize hAe : va_A (pD cZ cI a o o' q κ ω ω' σ) s.heap.size = A at hD ⊢
  have hP : va_P D vwCl (pD cZ cI a o o' q κ ω ω' σ) s.heap := hP
  have hl := lv_entry ([.ref a, .int x, .ref u]) (n := 4) (Nat.le_of_ble_eq_true rfl)
  rw [lg_entry_eq]
  generalize (lg_sl ([.ref a, .int x, .ref u]) ++ List.replicate (4 - (lg_sl ([.ref a, .int x, .ref u])).length) Slot.unset).toArray = ls at hl ⊢
  have hl : lv_has ls 4 [(0, .ref a), (1, .int x), (2, .ref u)] := hl
  refine lv_aload_n hx hb dL_play_0 rfl (lv_at hl 2 rfl) ?_
  refine lv_iconst (v := nI 0) hx hb dL_play_1 (by decide) ?_
  refine lv_aload_n hx hb dL_play_2 rfl (lv_at hl 0 rfl) ?_
  refine lv_iload_n hx hb dL_play_3 rfl (lv_at hl 1 rfl) ?_
  refine xr_call (vx_runV (As := [.int x]) (rest := [.int (nI 0), .ref u]) ⟨hx, hb, hml, hown, hts⟩ (x_X2_play_a l hl9 D cZ cI a o o' q κ ω ω' σ x h) (cwV 1 hts gL_play_X2_play rfl rfl rfl (by decide +kernel) ⟨Nat.le_of_ble_eq_true rfl, Nat.le_of_ble_eq_true rfl⟩) ⟨XrP_blind, va_recv hZ.1 hP (ci := 2) (q0 := 0) rfl rfl, XrP_start hP hZ hTx hE⟩ rfl rfl hl.1 rfl (lv_room (Nat.le_of_ble_eq_true rfl)) dL_play_4 ⟨Nat.le_of_ble_eq_true rfl, Nat.le_of_ble_eq_true rfl⟩) (fun ce q9 H1 hz1 hk1 hce hcv hcl => ?_)
  have hS : va_S A s.heap H1 [] := ⟨hz1, fun q hq _ => hk1 q hq, fun _ h => by cases h⟩
  have hP9 : va_P D vwCl (pD cZ cI a o o' q κ ω ω' σ) H1 := hP.kept (fun k q hk => hk1 q.1 (hP k q hk).lt)
  refine vx_catch (own := RL) (name := xnA) hown [] ⟨0, 9, 12, 21⟩ [⟨0, 9, 15, 13⟩] htb (by intro z h; cases h) rfl (by decide) (hts (.classLink RL 21 xnA) (by decide +kernel)) (hC.2.1.use rfl) hce hcv hcl ?_
  refine lv_astore_n (lv' := [(3, .ref q9), (0, .ref a), (1, .int x), (2, .ref u)]) hx hb dL_play_12 rfl hl (by decide) rfl (fun ls hl => ?_)
  refine lv_iconst (v := nI 1) hx hb dL_play_13 (by decide) ?_
  exact vx_ret (W.iret (v := nI 1) hx hb hr (fun t ht hW => ⟨⟨_, (), rfl, rfl, by rw [ht]; exact hP9, hD⟩, hS.F ht⟩) hS.2.2 dL_play_14)

set_option maxHeartbeats 4000000 in
set_option maxRecDepth 100000 in
theorem w_L_play_s (l : Launch) (hl9 : l.stackTraces = false) (D : va_G) (cZ cI : ClassId) (a : Nat) (o : Nat → Nat) (o' : Nat → Nat) (q : Nat → Nat) (κ : CS) (ω : OS) (ω' : OS) (σ : HS) (u sz : Nat) (x : Int32) (h : ¬ (x < 1 ∨ ¬ x ≤ 60)) (ho : ko κ = false) : vx_Met l yL_play wsL_play ({ frames := 8, cells := 1, slots := 6, locals := 142 }) (XwP D cZ cI [.ref a, .int x, .ref u] (pD cZ cI a o o' q κ ω ω' σ) sz) (WrI D (pD cZ cI a o o' q κ ω ω' σ) (va_A (pD cZ cI a o o' q κ ω ω' σ) sz) (nI 2)) (fun _ _ _ => False) 1 6 (va_A (pD cZ cI a o o' q κ ω ω' σ) sz) := by
  refine vx_ofWH (cc := cL_play) (maxL := 4) (ret := (some .int)) (by decide) rfl ?_
  intro p e s m args below meth c s₁ B hml hv
  obtain ⟨rfl, hsz, hP, hZ, hTx, hE, hC, hD0⟩ := hv
  have hx := B.exec
  have hb := B.bytes
  have hr := B.returns
  have hts := atoms_spec (ws := wsL_play) B.pre
  have hown : s.vm.findClass RL = some m.cls := findClass_of_methodNamed B.named
  have htb := vx_table (x := yL_play) B (hts (.codeWith yL_play cL_play 4 (some .int) [(0, 9, 12, 21), (0, 9, 15, 13)]) (by decide +kernel))
  subst hsz
  have hD := hD0.self (sz := s.heap.size)
  generalize hAe : va_A (pD cZ cI a o o' q κ ω ω' σ) s.heap.size = A at hD ⊢
  have hP : va_P D vwCl (pD cZ cI a o o' q κ ω ω' σ) s.heap := hP
  have hl := lv_entry ([.ref a, .int x, .ref u]) (n := 4) (Nat.le_of_ble_eq_true rfl)
  rw [lg_entry_eq]
  generalize (lg_sl ([.ref a, .int x, .ref u]) ++ List.replicate (4 - (lg_sl ([.ref a, .int x, .ref u])).length) Slot.unset).toArray = ls at hl ⊢
  have hl : lv_has ls 4 [(0, .ref a), (1, .int x), (2, .ref u)] := hl
  refine lv_aload_n hx hb dL_play_0 rfl (lv_at hl 2 rfl) ?_
  refine lv_iconst (v := nI 0) hx hb dL_play_1 (by decide) ?_
  refine lv_aload_n hx hb dL_play_2 rfl (lv_at hl 0 rfl) ?_
  refine lv_iload_n hx hb dL_play_3 rfl (lv_at hl 1 rfl) ?_
  refine xr_call (vx_runV (As := [.int x]) (rest := [.int (nI 0), .ref u]) ⟨hx, hb, hml, hown, hts⟩ (x_X2_play_s l hl9 D cZ cI a o o' q κ ω ω' σ x h ho) (cwV 1 hts gL_play_X2_play rfl rfl rfl (by decide +kernel) ⟨Nat.le_of_ble_eq_true rfl, Nat.le_of_ble_eq_true rfl⟩) ⟨XrP_blind, va_recv hZ.1 hP (ci := 2) (q0 := 0) rfl rfl, XrP_start hP hZ hTx hE⟩ rfl rfl hl.1 rfl (lv_room (Nat.le_of_ble_eq_true rfl)) dL_play_4 ⟨Nat.le_of_ble_eq_true rfl, Nat.le_of_ble_eq_true rfl⟩) (fun ce q9 H1 hz1 hk1 hce hcv hcl => ?_)
  have hS : va_S A s.heap H1 [] := ⟨hz1, fun q hq _ => hk1 q hq, fun _ h => by cases h⟩
  have hP9 : va_P D vwCl (pD cZ cI a o o' q κ ω ω' σ) H1 := hP.kept (fun k q hk => hk1 q.1 (hP k q hk).lt)
  refine vx_catch (own := RL) (name := xnS) hown [⟨0, 9, 12, 21⟩] ⟨0, 9, 15, 13⟩ [] htb (by intro z h; rcases List.mem_singleton.mp h with rfl; exact Or.inr ⟨by decide, xnA, hts (.classLink RL 21 xnA) (by decide +kernel), hC.2.2.2⟩) rfl (by decide) (hts (.classLink RL 13 xnS) (by decide +kernel)) (hC.2.2.1.use rfl) hce hcv hcl ?_
  refine lv_astore_n (lv' := [(3, .ref q9), (0, .ref a), (1, .int x), (2, .ref u)]) hx hb dL_play_15 rfl hl (by decide) rfl (fun ls hl => ?_)
  refine lv_iconst (v := nI 2) hx hb dL_play_16 (by decide) ?_
  exact vx_ret (W.iret (v := nI 2) hx hb hr (fun t ht hW => ⟨⟨_, (), rfl, rfl, by rw [ht]; exact hP9, hD⟩, hS.F ht⟩) hS.2.2 dL_play_17)

