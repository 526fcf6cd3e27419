set_option maxHeartbeats 4000000 in
set_option maxRecDepth 100000 in
theorem co_X2_turnsToCatch (l : Launch) (D : va_G) (cZ cI : ClassId) (a : Nat) (o : Nat → Nat) (o' : Nat → Nat) (q : Nat → Nat) (nw : Nat) (cg : Bool) (ea : Nat) (ω : OS) (ω' : OS) (σ : HS)    : Met l yX2_turnsToCatch wsX2_turnsToCatch ({ frames := 3, cells := 0, slots := 0, locals := 66 }) (RdP D cZ cI [.ref a] (pD cZ cI a o o' q (nw, false, cg, none, none, ea) ω ω' σ)) (vp_Si (fun r0 => r0 = (-1))) 0 0 (fun _ => False) := by
  refine Met.ofW (cc := cX2_turnsToCatch) (maxL := 1) (ret := (some .int)) (by decide) rfl ?_
  intro p e s m args below meth c s₁ B hml hv
  obtain ⟨rfl, hP, hZ⟩ := hv
  have hx := B.exec
  have hb := B.bytes
  have hr := B.returns
  have hts := atoms_spec (ws := wsX2_turnsToCatch) B.pre
  have hown : s.vm.findClass RX2 = some m.cls := findClass_of_methodNamed B.named
  have hlocks := B.notSynchronized
  have hP : va_P D vwCl (pD cZ cI a o o' q (nw, false, cg, none, none, ea) ω ω' σ) s.heap := hP
  have hl := lv_entry ([.ref a]) (n := 1) (Nat.le_of_ble_eq_true rfl)
  rw [lg_entry_eq]
  generalize (lg_sl ([.ref a]) ++ List.replicate (1 - (lg_sl ([.ref a])).length) Slot.unset).toArray = ls at hl ⊢
  have hl : lv_has ls 1 [(0, .ref a)] := hl
  have hin2 : ∀ w ∈ u_ws RX2 TX2 9, w ∈ wsX2_turnsToCatch := by decide +kernel
  have hf26 := hts (.fieldLink RX2 26 "DoorChase" "cat" "I") (by decide +kernel)
  have hf30 := hts (.fieldLink RX2 30 "DoorChase" "mouse" "I") (by decide +kernel)
  have hf107 := hts (.fieldLink RX2 107 "DoorChase" "isGoingOn" "Z") (by decide +kernel)
  refine lv_aload_n hx hb dX2_turnsToCatch_0 rfl (lv_at hl 0 rfl) ?_
  refine va_get (D := D) (ci := 2) (v := .int (bI false)) (C := RX2) (T := TX2) (N := 9) hx hb hts hin2 hown hZ.1 hP 0 rfl rfl 4 (by decide) hf107 (fun _ h9 => h9) rfl dX2_turnsToCatch_1 ?_
  refine rv_ifeqB (tgt := 22) hx hb dX2_turnsToCatch_4 (by decide) (fun c4_1 => ?_) (fun c4_1 => ?_)
  · skip
    refine lv_iconst (v := (-1)) hx hb dX2_turnsToCatch_22 (by decide) ?_
    exact W.iret (v := (-1)) hx hb hr (fun t ht hW => ⟨_, rfl, rfl, ht⟩) (fun q h => absurd h List.not_mem_nil) dX2_turnsToCatch_23
  · skip
    exact Bool.noConfusion c4_1

set_option maxHeartbeats 4000000 in
set_option maxRecDepth 100000 in
theorem co_X2_safeNow (l : Launch) (D : va_G) (cZ cI : ClassId) (a : Nat) (o : Nat → Nat) (o' : Nat → Nat) (q : Nat → Nat) (nw : Nat) (cg : Bool) (ea : Nat) (ω : OS) (ω' : OS) (σ : HS)    : Met l yX2_safeNow wsX2_safeNow ({ frames := 3, cells := 0, slots := 0, locals := 66 }) (RdP D cZ cI [.ref a] (pD cZ cI a o o' q (nw, false, cg, none, none, ea) ω ω' σ)) (vp_Si (fun r0 => r0 = nI 0)) 0 0 (fun _ => False) := by
  refine Met.ofW (cc := cX2_safeNow) (maxL := 3) (ret := (some .int)) (by decide) rfl ?_
  intro p e s m args below meth c s₁ B hml hv
  obtain ⟨rfl, hP, hZ⟩ := hv
  have hx := B.exec
  have hb := B.bytes
  have hr := B.returns
  have hts := atoms_spec (ws := wsX2_safeNow) B.pre
  have hown : s.vm.findClass RX2 = some m.cls := findClass_of_methodNamed B.named
  have hlocks := B.notSynchronized
  have hP : va_P D vwCl (pD cZ cI a o o' q (nw, false, cg, none, none, ea) ω ω' σ) s.heap := hP
  have hl := lv_entry ([.ref a]) (n := 3) (Nat.le_of_ble_eq_true rfl)
  rw [lg_entry_eq]
  generalize (lg_sl ([.ref a]) ++ List.replicate (3 - (lg_sl ([.ref a])).length) Slot.unset).toArray = ls at hl ⊢
  have hl : lv_has ls 3 [(0, .ref a)] := hl
  have hin2 : ∀ w ∈ u_ws RX2 TX2 9, w ∈ wsX2_safeNow := by decide +kernel
  have hin0 : ∀ w ∈ u_ws RX0 TX0 9, w ∈ wsX2_safeNow := by decide +kernel
  have hf10 := hts (.fieldLink RX2 10 "DoorChase" "house" "LDoorChase$House;") (by decide +kernel)
  have hf26 := hts (.fieldLink RX2 26 "DoorChase" "cat" "I") (by decide +kernel)
  have hf33 := hts (.fieldLink RX2 33 "DoorChase$House" "roomCount" "I") (by decide +kernel)
  have hf107 := hts (.fieldLink RX2 107 "DoorChase" "isGoingOn" "Z") (by decide +kernel)
  refine lv_iconst (v := nI 0) hx hb dX2_safeNow_0 (by decide) ?_
  refine lv_istore_n (lv' := [(1, .int (nI 0)), (0, .ref a)]) hx hb dX2_safeNow_1 rfl hl (by decide) rfl (fun ls hl => ?_)
  refine lv_iconst (v := nI 0) hx hb dX2_safeNow_2 (by decide) ?_
  refine lv_istore_n (lv' := [(2, .int (nI 0)), (1, .int (nI 0)), (0, .ref a)]) hx hb dX2_safeNow_3 rfl hl (by decide) rfl (fun ls hl => ?_)
  refine lv_aload_n hx hb dX2_safeNow_4 rfl (lv_at hl 2 rfl) ?_
  refine va_get (D := D) (ci := 2) (v := .int (bI false)) (C := RX2) (T := TX2) (N := 9) hx hb hts hin2 hown hZ.1 hP 0 rfl rfl 4 (by decide) hf107 (fun _ h9 => h9) rfl dX2_safeNow_5 ?_
  refine rv_ifeqB (tgt := 44) hx hb dX2_safeNow_8 (by decide) (fun c8_1 => ?_) (fun c8_1 => ?_)
  · skip
    refine lv_iload_n hx hb dX2_safeNow_44 rfl (lv_at hl 1 rfl) ?_
    exact W.iret (v := nI 0) hx hb hr (fun t ht hW => ⟨_, rfl, rfl, ht⟩) (fun q h => absurd h List.not_mem_nil) dX2_safeNow_45
  · skip
    exact Bool.noConfusion c8_1

set_option maxHeartbeats 4000000 in
set_option maxRecDepth 100000 in
theorem co_X2_bestGo (l : Launch) (D : va_G) (cZ cI : ClassId) (a : Nat) (o : Nat → Nat) (o' : Nat → Nat) (q : Nat → Nat) (nw : Nat) (cg : Bool) (ea : Nat) (ω : OS) (ω' : OS) (σ : HS)    : Met l yX2_bestGo wsX2_bestGo ({ frames := 4, cells := 0, slots := 0, locals := 93 }) (RdP D cZ cI [.ref a] (pD cZ cI a o o' q (nw, false, cg, none, none, ea) ω ω' σ)) (vp_Si (fun r0 => r0 = (-1))) 0 0 (fun _ => False) := by
  refine Met.ofW (cc := cX2_bestGo) (maxL := 2) (ret := (some .int)) (by decide) rfl ?_
  intro p e s m args below meth c s₁ B hml hv
  obtain ⟨rfl, hP, hZ⟩ := hv
  have hx := B.exec
  have hb := B.bytes
  have hr := B.returns
  have hts := atoms_spec (ws := wsX2_bestGo) B.pre
  have hown : s.vm.findClass RX2 = some m.cls := findClass_of_methodNamed B.named
  have hlocks := B.notSynchronized
  have hP : va_P D vwCl (pD cZ cI a o o' q (nw, false, cg, none, none, ea) ω ω' σ) s.heap := hP
  have hl := lv_entry ([.ref a]) (n := 2) (Nat.le_of_ble_eq_true rfl)
  rw [lg_entry_eq]
  generalize (lg_sl ([.ref a]) ++ List.replicate (2 - (lg_sl ([.ref a])).length) Slot.unset).toArray = ls at hl ⊢
  have hl : lv_has ls 2 [(0, .ref a)] := hl
  have hin2 : ∀ w ∈ u_ws RX2 TX2 9, w ∈ wsX2_bestGo := by decide +kernel
  have hf107 := hts (.fieldLink RX2 107 "DoorChase" "isGoingOn" "Z") (by decide +kernel)
  refine lv_aload_n hx hb dX2_bestGo_0 rfl (lv_at hl 0 rfl) ?_
  refine va_get (D := D) (ci := 2) (v := .int (bI false)) (C := RX2) (T := TX2) (N := 9) hx hb hts hin2 hown hZ.1 hP 0 rfl rfl 4 (by decide) hf107 (fun _ h9 => h9) rfl dX2_bestGo_1 ?_
  refine rv_ifneB (tgt := 9) hx hb dX2_bestGo_4 (by decide) (fun c4_1 => ?_) (fun c4_1 => ?_)
  · skip
    exact Bool.noConfusion c4_1
  · skip
    refine lv_iconst (v := (-1)) hx hb dX2_bestGo_7 (by decide) ?_
    exact W.iret (v := (-1)) hx hb hr (fun t ht hW => ⟨_, rfl, rfl, ht⟩) (fun q h => absurd h List.not_mem_nil) dX2_bestGo_8

set_option maxHeartbeats 4000000 in
set_option maxRecDepth 100000 in
theorem co_X2_bestDoorToLock (l : Launch) (D : va_G) (cZ cI : ClassId) (a : Nat) (o : Nat → Nat) (o' : Nat → Nat) (q : Nat → Nat) (nw : Nat) (cg : Bool) (ea : Nat) (ω : OS) (ω' : OS) (σ : HS)    : Met l yX2_bestDoorToLock wsX2_bestDoorToLock ({ frames := 5, cells := 0, slots := 0, locals := 119 }) (RdP D cZ cI [.ref a] (pD cZ cI a o o' q (nw, false, cg, none, none, ea) ω ω' σ)) (vp_Si (fun r0 => r0 = (-1))) 0 0 (fun _ => False) := by
  refine Met.ofW (cc := cX2_bestDoorToLock) (maxL := 5) (ret := (some .int)) (by decide) rfl ?_
  intro p e s m args below meth c s₁ B hml hv
  obtain ⟨rfl, hP, hZ⟩ := hv
  have hx := B.exec
  have hb := B.bytes
  have hr := B.returns
  have hts := atoms_spec (ws := wsX2_bestDoorToLock) B.pre
  have hown : s.vm.findClass RX2 = some m.cls := findClass_of_methodNamed B.named
  have hlocks := B.notSynchronized
  have hP : va_P D vwCl (pD cZ cI a o o' q (nw, false, cg, none, none, ea) ω ω' σ) s.heap := hP
  have hl := lv_entry ([.ref a]) (n := 5) (Nat.le_of_ble_eq_true rfl)
  rw [lg_entry_eq]
  generalize (lg_sl ([.ref a]) ++ List.replicate (5 - (lg_sl ([.ref a])).length) Slot.unset).toArray = ls at hl ⊢
  have hl : lv_has ls 5 [(0, .ref a)] := hl
  have hin2 : ∀ w ∈ u_ws RX2 TX2 9, w ∈ wsX2_bestDoorToLock := by decide +kernel
  have hin0 : ∀ w ∈ u_ws RX0 TX0 9, w ∈ wsX2_bestDoorToLock := by decide +kernel
  have hf10 := hts (.fieldLink RX2 10 "DoorChase" "house" "LDoorChase$House;") (by decide +kernel)
  have hf62 := hts (.fieldLink RX2 62 "DoorChase$House" "doorCount" "I") (by decide +kernel)
  have hf80 := hts (.fieldLink RX2 80 "DoorChase$House" "locked" "[Z") (by decide +kernel)
  refine lv_aload_n hx hb dX2_bestDoorToLock_0 rfl (lv_at hl 0 rfl) ?_
  refine vp_callSi (va_runV (As := []) (rest := []) ⟨hx, hb, hml, hown, hts⟩ (co_X2_turnsToCatch l D cZ cI a o o' q nw cg ea ω ω' σ   ) (cwV 0 hts gX2_bestDoorToLock_X2_turnsToCatch rfl rfl rfl (by decide +kernel) ⟨Nat.le_of_ble_eq_true rfl, Nat.le_of_ble_eq_true rfl⟩) ⟨RdP_blind, va_recv hZ.1 hP (ci := 2) (q0 := 0) rfl rfl, RdP_start (hP.sub (ws' := pD cZ cI a o o' q (nw, false, cg, none, none, ea) ω ω' σ) [0, 1, 2, 3, 4, 5, 6, 7, 8, 9, 10, 11, 12, 13, 14, 15, 16, 17, 18] rfl) hZ⟩ rfl rfl hl.1 rfl (lv_room (Nat.le_of_ble_eq_true rfl)) dX2_bestDoorToLock_1 ⟨Nat.le_of_ble_eq_true rfl, Nat.le_of_ble_eq_true rfl⟩).run (fun r_1 hr_2 => ?_)
  subst hr_2
  refine rv_top (show _ = (-1) from rfl) ?_
  refine lv_istore_n (lv' := [(1, .int ((-1))), (0, .ref a)]) hx hb dX2_bestDoorToLock_4 rfl hl (by decide) rfl (fun ls hl => ?_)
  refine lv_iconst (v := (-1)) hx hb dX2_bestDoorToLock_5 (by decide) ?_
  refine lv_istore_n (lv' := [(2, .int ((-1))), (1, .int ((-1))), (0, .ref a)]) hx hb dX2_bestDoorToLock_6 rfl hl (by decide) rfl (fun ls hl => ?_)
  refine lv_iconst (v := nI 0) hx hb dX2_bestDoorToLock_7 (by decide) ?_
  refine lv_istore_n (lv' := [(3, .int (nI 0)), (2, .int ((-1))), (1, .int ((-1))), (0, .ref a)]) hx hb dX2_bestDoorToLock_8 rfl hl (by decide) rfl (fun ls hl => ?_)
  refine lv_iload_n hx hb dX2_bestDoorToLock_9 rfl (lv_at hl 2 rfl) ?_
  refine lv_iconst (v := (-1)) hx hb dX2_bestDoorToLock_10 (by decide) ?_
  refine lv_icmp_eq (tgt := 67) hx hb dX2_bestDoorToLock_11 (by decide) (fun c11_3 => ?_) (fun c11_3 => ?_)
  · skip
    refine lv_iload_n hx hb dX2_bestDoorToLock_67 rfl (lv_at hl 1 rfl) ?_
    exact W.iret (v := (-1)) hx hb hr (fun t ht hW => ⟨_, rfl, rfl, ht⟩) (fun q h => absurd h List.not_mem_nil) dX2_bestDoorToLock_68
  · skip
    exact absurd rfl c11_3

set_option maxHeartbeats 4000000 in
set_option maxRecDepth 100000 in
theorem co_X2_digest (l : Launch) (D : va_G) (cZ cI : ClassId) (a : Nat) (o : Nat → Nat) (o' : Nat → Nat) (q : Nat → Nat) (nw : Nat) (cg : Bool) (ea : Nat) (ω : OS) (ω' : OS) (σ : HS)   (hσ : zOk σ) (hnw : nw < 2 ^ 30) (hT : tOk ω) : Met l yX2_digest wsX2_digest ({ frames := 6, cells := 0, slots := 0, locals := 143 }) (RdP D cZ cI [.ref a] (pD cZ cI a o o' q (nw, false, cg, none, none, ea) ω ω' σ)) (vp_Sl (fun r0 => r0 = jdL σ (nw) ((zM σ)) 0 (jrL σ ((zN σ)) 0 ((((((((((((((2371 * 31 + ((nI nw).toInt64)) * 31 + ((nI (zN σ)).toInt64)) * 31 + ((nI (zM σ)).toInt64)) * 31 + (aN false)) * 31 + (aN cg)) * 31 + (oN none)) * 31 + (oN none)) * 31 + ((nI ea).toInt64)) * 31 + (((-1 : Int32)).toInt64)) * 31 + ((nI 0).toInt64)) * 31 + (((-1 : Int32)).toInt64)) * 31 + ((nI (pcL ω σ (nw) 64 0 0)).toInt64)) * 31 + (oN (lcL ω σ (nw) 64 0 none))) * 31 + (((-1 : Int32)).toInt64))))) 0 0 (fun _ => False) := by
  refine Met.ofW (cc := cX2_digest) (maxL := 3) (ret := (some .long)) (by decide) rfl ?_
  intro p e s m args below meth c s₁ B hml hv
  obtain ⟨rfl, hP, hZ⟩ := hv
  have hx := B.exec
  have hb := B.bytes
  have hr := B.returns
  have hts := atoms_spec (ws := wsX2_digest) B.pre
  have hown : s.vm.findClass RX2 = some m.cls := findClass_of_methodNamed B.named
  have hlocks := B.notSynchronized
  have hP : va_P D vwCl (pD cZ cI a o o' q (nw, false, cg, none, none, ea) ω ω' σ) s.heap := hP
  have hl := lv_entry ([.ref a]) (n := 3) (Nat.le_of_ble_eq_true rfl)
  rw [lg_entry_eq]
  generalize (lg_sl ([.ref a]) ++ List.replicate (3 - (lg_sl ([.ref a])).length) Slot.unset).toArray = ls at hl ⊢
  have hl : lv_has ls 3 [(0, .ref a)] := hl
  obtain ⟨hσ1, hσ2, hσ3, hσ4, hσ5, hσ6, hσ7⟩ := id hσ
  refine lv_ldc2 (v := 2371) hx hb hown (hts (.constantLong RX2 186 2371) (by decide +kernel)) dX2_digest_0 ?_
  refine lv_lstore_n (lv' := [(1, .long 2371), (0, .ref a)]) hx hb dX2_digest_3 rfl hl (by decide) rfl (fun ls hl => ?_)
  refine lv_lload_n hx hb dX2_digest_4 rfl (lv_at hl 0 rfl) ?_
  refine lv_aload_n hx hb dX2_digest_5 rfl (lv_at hl 1 rfl) ?_
  refine vp_callSi (va_runV (As := []) (rest := [.long 2371]) ⟨hx, hb, hml, hown, hts⟩ (c_X2_turn l D cZ cI a o o' q (nw, false, cg, none, none, ea) ω ω' σ   ) (cwV 0 hts gX2_digest_X2_turn rfl rfl rfl (by decide +kernel) ⟨Nat.le_of_ble_eq_true rfl, Nat.le_of_ble_eq_true rfl⟩) ⟨RdP_blind, va_recv hZ.1 hP (ci := 2) (q0 := 0) rfl rfl, RdP_start (hP.sub (ws' := pD cZ cI a o o' q (nw, false, cg, none, none, ea) ω ω' σ) [0, 1, 2, 3, 4, 5, 6, 7, 8, 9, 10, 11, 12, 13, 14, 15, 16, 17, 18] rfl) hZ⟩ rfl rfl hl.1 rfl (lv_room (Nat.le_of_ble_eq_true rfl)) dX2_digest_6 ⟨Nat.le_of_ble_eq_true rfl, Nat.le_of_ble_eq_true rfl⟩).run (fun r_1 hr_2 => ?_)
  subst hr_2
  refine rv_top (show _ = nI nw from rfl) ?_
  refine lv_i2l (v := (nI nw).toInt64) hx hb dX2_digest_9 rfl ?_
  refine vp_callSl (va_runS (As := [.long 2371, .long ((nI nw).toInt64)]) (rest := []) ⟨hx, hb, hml, hown, hts⟩ (c_X2_joined l D cZ cI   2371 ((nI nw).toInt64) ) (va_cwS 2 hts gX2_digest_X2_joined rfl rfl rfl (by decide +kernel) ⟨Nat.le_of_ble_eq_true rfl, Nat.le_of_ble_eq_true rfl⟩) ⟨RdP_blind, RdP_start (hP.sub (ws' := []) [] rfl) hZ⟩ rfl rfl hl.1 rfl (lv_room (Nat.le_of_ble_eq_true rfl)) dX2_digest_10 ⟨Nat.le_of_ble_eq_true rfl, Nat.le_of_ble_eq_true rfl⟩).run (fun r_3 hr_4 => ?_)
  subst hr_4
  refine lv_lstore_n (lv' := [(1, .long (2371 * 31 + ((nI nw).toInt64))), (0, .ref a)]) hx hb dX2_digest_13 rfl hl (by decide) rfl (fun ls hl => ?_)
  refine lv_lload_n hx hb dX2_digest_14 rfl (lv_at hl 0 rfl) ?_
  refine lv_aload_n hx hb dX2_digest_15 rfl (lv_at hl 1 rfl) ?_
  refine vp_callSi (va_runV (As := []) (rest := [.long (2371 * 31 + ((nI nw).toInt64))]) ⟨hx, hb, hml, hown, hts⟩ (c_X2_rooms l D cZ cI a o o' q (nw, false, cg, none, none, ea) ω ω' σ   ) (cwV 0 hts gX2_digest_X2_rooms rfl rfl rfl (by decide +kernel) ⟨Nat.le_of_ble_eq_true rfl, Nat.le_of_ble_eq_true rfl⟩) ⟨RdP_blind, va_recv hZ.1 hP (ci := 2) (q0 := 0) rfl rfl, RdP_start (hP.sub (ws' := pD cZ cI a o o' q (nw, false, cg, none, none, ea) ω ω' σ) [0, 1, 2, 3, 4, 5, 6, 7, 8, 9, 10, 11, 12, 13, 14, 15, 16, 17, 18] rfl) hZ⟩ rfl rfl hl.1 rfl (lv_room (Nat.le_of_ble_eq_true rfl)) dX2_digest_16 ⟨Nat.le_of_ble_eq_true rfl, Nat.le_of_ble_eq_true rfl⟩).run (fun r_5 hr_6 => ?_)
  subst hr_6
  refine rv_top (show _ = nI (zN σ) from rfl) ?_
  refine lv_i2l (v := (nI (zN σ)).toInt64) hx hb dX2_digest_19 rfl ?_
  refine vp_callSl (va_runS (As := [.long (2371 * 31 + ((nI nw).toInt64)), .long ((nI (zN σ)).toInt64)]) (rest := []) ⟨hx, hb, hml, hown, hts⟩ (c_X2_joined l D cZ cI   (2371 * 31 + ((nI nw).toInt64)) ((nI (zN σ)).toInt64) ) (va_cwS 2 hts gX2_digest_X2_joined rfl rfl rfl (by decide +kernel) ⟨Nat.le_of_ble_eq_true rfl, Nat.le_of_ble_eq_true rfl⟩) ⟨RdP_blind, RdP_start (hP.sub (ws' := []) [] rfl) hZ⟩ rfl rfl hl.1 rfl (lv_room (Nat.le_of_ble_eq_true rfl)) dX2_digest_20 ⟨Nat.le_of_ble_eq_true rfl, Nat.le_of_ble_eq_true rfl⟩).run (fun r_7 hr_8 => ?_)
  subst hr_8
  refine lv_lstore_n (lv' := [(1, .long ((2371 * 31 + ((nI nw).toInt64)) * 31 + ((nI (zN σ)).toInt64))), (0, .ref a)]) hx hb dX2_digest_23 rfl hl (by decide) rfl (fun ls hl => ?_)
  refine lv_lload_n hx hb dX2_digest_24 rfl (lv_at hl 0 rfl) ?_
  refine lv_aload_n hx hb dX2_digest_25 rfl (lv_at hl 1 rfl) ?_
  refine vp_callSi (va_runV (As := []) (rest := [.long ((2371 * 31 + ((nI nw).toInt64)) * 31 + ((nI (zN σ)).toInt64))]) ⟨hx, hb, hml, hown, hts⟩ (c_X2_doors l D cZ cI a o o' q (nw, false, cg, none, none, ea) ω ω' σ   ) (cwV 0 hts gX2_digest_X2_doors rfl rfl rfl (by decide +kernel) ⟨Nat.le_of_ble_eq_true rfl, Nat.le_of_ble_eq_true rfl⟩) ⟨RdP_blind, va_recv hZ.1 hP (ci := 2) (q0 := 0) rfl rfl, RdP_start (hP.sub (ws' := pD cZ cI a o o' q (nw, false, cg, none, none, ea) ω ω' σ) [0, 1, 2, 3, 4, 5, 6, 7, 8, 9, 10, 11, 12, 13, 14, 15, 16, 17, 18] rfl) hZ⟩ rfl rfl hl.1 rfl (lv_room (Nat.le_of_ble_eq_true rfl)) dX2_digest_26 ⟨Nat.le_of_ble_eq_true rfl, Nat.le_of_ble_eq_true rfl⟩).run (fun r_9 hr_10 => ?_)
  subst hr_10
  refine rv_top (show _ = nI (zM σ) from rfl) ?_
  refine lv_i2l (v := (nI (zM σ)).toInt64) hx hb dX2_digest_29 rfl ?_
  refine vp_callSl (va_runS (As := [.long ((2371 * 31 + ((nI nw).toInt64)) * 31 + ((nI (zN σ)).toInt64)), .long ((nI (zM σ)).toInt64)]) (rest := []) ⟨hx, hb, hml, hown, hts⟩ (c_X2_joined l D cZ cI   ((2371 * 31 + ((nI nw).toInt64)) * 31 + ((nI (zN σ)).toInt64)) ((nI (zM σ)).toInt64) ) (va_cwS 2 hts gX2_digest_X2_joined rfl rfl rfl (by decide +kernel) ⟨Nat.le_of_ble_eq_true rfl, Nat.le_of_ble_eq_true rfl⟩) ⟨RdP_blind, RdP_start (hP.sub (ws' := []) [] rfl) hZ⟩ rfl rfl hl.1 rfl (lv_room (Nat.le_of_ble_eq_true rfl)) dX2_digest_30 ⟨Nat.le_of_ble_eq_true rfl, Nat.le_of_ble_eq_true rfl⟩).run (fun r_11 hr_12 => ?_)
  subst hr_12
  refine lv_lstore_n (lv' := [(1, .long (((2371 * 31 + ((nI nw).toInt64)) * 31 + ((nI (zN σ)).toInt64)) * 31 + ((nI (zM σ)).toInt64))), (0, .ref a)]) hx hb dX2_digest_33 rfl hl (by decide) rfl (fun ls hl => ?_)
  refine lv_lload_n hx hb dX2_digest_34 rfl (lv_at hl 0 rfl) ?_
  refine lv_aload_n hx hb dX2_digest_35 rfl (lv_at hl 1 rfl) ?_
  refine vp_callSi (va_runV (As := []) (rest := [.long (((2371 * 31 + ((nI nw).toInt64)) * 31 + ((nI (zN σ)).toInt64)) * 31 + ((nI (zM σ)).toInt64))]) ⟨hx, hb, hml, hown, hts⟩ (c_X2_isOn l D cZ cI a o o' q (nw, false, cg, none, none, ea) ω ω' σ   ) (cwV 0 hts gX2_digest_X2_isOn rfl rfl rfl (by decide +kernel) ⟨Nat.le_of_ble_eq_true rfl, Nat.le_of_ble_eq_true rfl⟩) ⟨RdP_blind, va_recv hZ.1 hP (ci := 2) (q0 := 0) rfl rfl, RdP_start (hP.sub (ws' := pD cZ cI a o o' q (nw, false, cg, none, none, ea) ω ω' σ) [0, 1, 2, 3, 4, 5, 6, 7, 8, 9, 10, 11, 12, 13, 14, 15, 16, 17, 18] rfl) hZ⟩ rfl rfl hl.1 rfl (lv_room (Nat.le_of_ble_eq_true rfl)) dX2_digest_36 ⟨Nat.le_of_ble_eq_true rfl, Nat.le_of_ble_eq_true rfl⟩).run (fun r_13 hr_14 => ?_)
  subst hr_14
  refine rv_top (show _ = bI false from rfl) ?_
  refine vp_callSl (va_runS (As := [.int (bI false)]) (rest := [.long (((2371 * 31 + ((nI nw).toInt64)) * 31 + ((nI (zN σ)).toInt64)) * 31 + ((nI (zM σ)).toInt64))]) ⟨hx, hb, hml, hown, hts⟩ (c_X2_asNumber l D cZ cI   false ) (va_cwS 1 hts gX2_digest_X2_asNumber rfl rfl rfl (by decide +kernel) ⟨Nat.le_of_ble_eq_true rfl, Nat.le_of_ble_eq_true rfl⟩) ⟨RdP_blind, RdP_start (hP.sub (ws' := []) [] rfl) hZ⟩ rfl rfl hl.1 rfl (lv_room (Nat.le_of_ble_eq_true rfl)) dX2_digest_39 ⟨Nat.le_of_ble_eq_true rfl, Nat.le_of_ble_eq_true rfl⟩).run (fun r_15 hr_16 => ?_)
  subst hr_16
  refine vp_callSl (va_runS (As := [.long (((2371 * 31 + ((nI nw).toInt64)) * 31 + ((nI (zN σ)).toInt64)) * 31 + ((nI (zM σ)).toInt64)), .long (aN false)]) (rest := []) ⟨hx, hb, hml, hown, hts⟩ (c_X2_joined l D cZ cI   (((2371 * 31 + ((nI nw).toInt64)) * 31 + ((nI (zN σ)).toInt64)) * 31 + ((nI (zM σ)).toInt64)) (aN false) ) (va_cwS 2 hts gX2_digest_X2_joined rfl rfl rfl (by decide +kernel) ⟨Nat.le_of_ble_eq_true rfl, Nat.le_of_ble_eq_true rfl⟩) ⟨RdP_blind, RdP_start (hP.sub (ws' := []) [] rfl) hZ⟩ rfl rfl hl.1 rfl (lv_room (Nat.le_of_ble_eq_true rfl)) dX2_digest_42 ⟨Nat.le_of_ble_eq_true rfl, Nat.le_of_ble_eq_true rfl⟩).run (fun r_17 hr_18 => ?_)
  subst hr_18
  refine lv_lstore_n (lv' := [(1, .long ((((2371 * 31 + ((nI nw).toInt64)) * 31 + ((nI (zN σ)).toInt64)) * 31 + ((nI (zM σ)).toInt64)) * 31 + (aN false))), (0, .ref a)]) hx hb dX2_digest_45 rfl hl (by decide) rfl (fun ls hl => ?_)
  refine lv_lload_n hx hb dX2_digest_46 rfl (lv_at hl 0 rfl) ?_
  refine lv_aload_n hx hb dX2_digest_47 rfl (lv_at hl 1 rfl) ?_
  refine vp_callSi (va_runV (As := []) (rest := [.long ((((2371 * 31 + ((nI nw).toInt64)) * 31 + ((nI (zN σ)).toInt64)) * 31 + ((nI (zM σ)).toInt64)) * 31 + (aN false))]) ⟨hx, hb, hml, hown, hts⟩ (c_X2_isCaught l D cZ cI a o o' q (nw, false, cg, none, none, ea) ω ω' σ   ) (cwV 0 hts gX2_digest_X2_isCaught rfl rfl rfl (by decide +kernel) ⟨Nat.le_of_ble_eq_true rfl, Nat.le_of_ble_eq_true rfl⟩) ⟨RdP_blind, va_recv hZ.1 hP (ci := 2) (q0 := 0) rfl rfl, RdP_start (hP.sub (ws' := pD cZ cI a o o' q (nw, false, cg, none, none, ea) ω ω' σ) [0, 1, 2, 3, 4, 5, 6, 7, 8, 9, 10, 11, 12, 13, 14, 15, 16, 17, 18] rfl) hZ⟩ rfl rfl hl.1 rfl (lv_room (Nat.le_of_ble_eq_true rfl)) dX2_digest_48 ⟨Nat.le_of_ble_eq_true rfl, Nat.le_of_ble_eq_true rfl⟩).run (fun r_19 hr_20 => ?_)
  subst hr_20
  refine rv_top (show _ = bI cg from rfl) ?_
  refine vp_callSl (va_runS (As := [.int (bI cg)]) (rest := [.long ((((2371 * 31 + ((nI nw).toInt64)) * 31 + ((nI (zN σ)).toInt64)) * 31 + ((nI (zM σ)).toInt64)) * 31 + (aN false))]) ⟨hx, hb, hml, hown, hts⟩ (c_X2_asNumber l D cZ cI   cg ) (va_cwS 1 hts gX2_digest_X2_asNumber rfl rfl rfl (by decide +kernel) ⟨Nat.le_of_ble_eq_true rfl, Nat.le_of_ble_eq_true rfl⟩) ⟨RdP_blind, RdP_start (hP.sub (ws' := []) [] rfl) hZ⟩ rfl rfl hl.1 rfl (lv_room (Nat.le_of_ble_eq_true rfl)) dX2_digest_51 ⟨Nat.le_of_ble_eq_true rfl, Nat.le_of_ble_eq_true rfl⟩).run (fun r_21 hr_22 => ?_)
  subst hr_22
  refine vp_callSl (va_runS (As := [.long ((((2371 * 31 + ((nI nw).toInt64)) * 31 + ((nI (zN σ)).toInt64)) * 31 + ((nI (zM σ)).toInt64)) * 31 + (aN false)), .long (aN cg)]) (rest := []) ⟨hx, hb, hml, hown, hts⟩ (c_X2_joined l D cZ cI   ((((2371 * 31 + ((nI nw).toInt64)) * 31 + ((nI (zN σ)).toInt64)) * 31 + ((nI (zM σ)).toInt64)) * 31 + (aN false)) (aN cg) ) (va_cwS 2 hts gX2_digest_X2_joined rfl rfl rfl (by decide +kernel) ⟨Nat.le_of_ble_eq_true rfl, Nat.le_of_ble_eq_true rfl⟩) ⟨RdP_blind, RdP_start (hP.sub (ws' := []) [] rfl) hZ⟩ rfl rfl hl.1 rfl (lv_room (Nat.le_of_ble_eq_true rfl)) dX2_digest_54 ⟨Nat.le_of_ble_eq_true rfl, Nat.le_of_ble_eq_true rfl⟩).run (fun r_23 hr_24 => ?_)
  subst hr_24
  refine lv_lstore_n (lv' := [(1, .long (((((2371 * 31 + ((nI nw).toInt64)) * 31 + ((nI (zN σ)).toInt64)) * 31 + ((nI (zM σ)).toInt64)) * 31 + (aN false)) * 31 + (aN cg))), (0, .ref a)]) hx hb dX2_digest_57 rfl hl (by decide) rfl (fun ls hl => ?_)
  refine lv_lload_n hx hb dX2_digest_58 rfl (lv_at hl 0 rfl) ?_
  refine lv_aload_n hx hb dX2_digest_59 rfl (lv_at hl 1 rfl) ?_
  refine vp_callSi (va_runV (As := []) (rest := [.long (((((2371 * 31 + ((nI nw).toInt64)) * 31 + ((nI (zN σ)).toInt64)) * 31 + ((nI (zM σ)).toInt64)) * 31 + (aN false)) * 31 + (aN cg))]) ⟨hx, hb, hml, hown, hts⟩ (c_X2_catIn l D cZ cI a o o' q (nw, false, cg, none, none, ea) ω ω' σ   ) (cwV 0 hts gX2_digest_X2_catIn rfl rfl rfl (by decide +kernel) ⟨Nat.le_of_ble_eq_true rfl, Nat.le_of_ble_eq_true rfl⟩) ⟨RdP_blind, va_recv hZ.1 hP (ci := 2) (q0 := 0) rfl rfl, RdP_start (hP.sub (ws' := pD cZ cI a o o' q (nw, false, cg, none, none, ea) ω ω' σ) [0, 1, 2, 3, 4, 5, 6, 7, 8, 9, 10, 11, 12, 13, 14, 15, 16, 17, 18] rfl) hZ⟩ rfl rfl hl.1 rfl (lv_room (Nat.le_of_ble_eq_true rfl)) dX2_digest_60 ⟨Nat.le_of_ble_eq_true rfl, Nat.le_of_ble_eq_true rfl⟩).run (fun r_25 hr_26 => ?_)
  subst hr_26
  refine rv_top (show _ = iO none from rfl) ?_
  refine lv_i2l (v := oN none) hx hb dX2_digest_63 rfl ?_
  refine vp_callSl (va_runS (As := [.long (((((2371 * 31 + ((nI nw).toInt64)) * 31 + ((nI (zN σ)).toInt64)) * 31 + ((nI (zM σ)).toInt64)) * 31 + (aN false)) * 31 + (aN cg)), .long (oN none)]) (rest := []) ⟨hx, hb, hml, hown, hts⟩ (c_X2_joined l D cZ cI   (((((2371 * 31 + ((nI nw).toInt64)) * 31 + ((nI (zN σ)).toInt64)) * 31 + ((nI (zM σ)).toInt64)) * 31 + (aN false)) * 31 + (aN cg)) (oN none) ) (va_cwS 2 hts gX2_digest_X2_joined rfl rfl rfl (by decide +kernel) ⟨Nat.le_of_ble_eq_true rfl, Nat.le_of_ble_eq_true rfl⟩) ⟨RdP_blind, RdP_start (hP.sub (ws' := []) [] rfl) hZ⟩ rfl rfl hl.1 rfl (lv_room (Nat.le_of_ble_eq_true rfl)) dX2_digest_64 ⟨Nat.le_of_ble_eq_true rfl, Nat.le_of_ble_eq_true rfl⟩).run (fun r_27 hr_28 => ?_)
  subst hr_28
  refine lv_lstore_n (lv' := [(1, .long ((((((2371 * 31 + ((nI nw).toInt64)) * 31 + ((nI (zN σ)).toInt64)) * 31 + ((nI (zM σ)).toInt64)) * 31 + (aN false)) * 31 + (aN cg)) * 31 + (oN none))), (0, .ref a)]) hx hb dX2_digest_67 rfl hl (by decide) rfl (fun ls hl => ?_)
  refine lv_lload_n hx hb dX2_digest_68 rfl (lv_at hl 0 rfl) ?_
  refine lv_aload_n hx hb dX2_digest_69 rfl (lv_at hl 1 rfl) ?_
  refine vp_callSi (va_runV (As := []) (rest := [.long ((((((2371 * 31 + ((nI nw).toInt64)) * 31 + ((nI (zN σ)).toInt64)) * 31 + ((nI (zM σ)).toInt64)) * 31 + (aN false)) * 31 + (aN cg)) * 31 + (oN none))]) ⟨hx, hb, hml, hown, hts⟩ (c_X2_mouseIn l D cZ cI a o o' q (nw, false, cg, none, none, ea) ω ω' σ   ) (cwV 0 hts gX2_digest_X2_mouseIn rfl rfl rfl (by decide +kernel) ⟨Nat.le_of_ble_eq_true rfl, Nat.le_of_ble_eq_true rfl⟩) ⟨RdP_blind, va_recv hZ.1 hP (ci := 2) (q0 := 0) rfl rfl, RdP_start (hP.sub (ws' := pD cZ cI a o o' q (nw, false, cg, none, none, ea) ω ω' σ) [0, 1, 2, 3, 4, 5, 6, 7, 8, 9, 10, 11, 12, 13, 14, 15, 16, 17, 18] rfl) hZ⟩ rfl rfl hl.1 rfl (lv_room (Nat.le_of_ble_eq_true rfl)) dX2_digest_70 ⟨Nat.le_of_ble_eq_true rfl, Nat.le_of_ble_eq_true rfl⟩).run (fun r_29 hr_30 => ?_)
  subst hr_30
  refine rv_top (show _ = iO none from rfl) ?_
  refine lv_i2l (v := oN none) hx hb dX2_digest_73 rfl ?_
  refine vp_callSl (va_runS (As := [.long ((((((2371 * 31 + ((nI nw).toInt64)) * 31 + ((nI (zN σ)).toInt64)) * 31 + ((nI (zM σ)).toInt64)) * 31 + (aN false)) * 31 + (aN cg)) * 31 + (oN none)), .long (oN none)]) (rest := []) ⟨hx, hb, hml, hown, hts⟩ (c_X2_joined l D cZ cI   ((((((2371 * 31 + ((nI nw).toInt64)) * 31 + ((nI (zN σ)).toInt64)) * 31 + ((nI (zM σ)).toInt64)) * 31 + (aN false)) * 31 + (aN cg)) * 31 + (oN none)) (oN none) ) (va_cwS 2 hts gX2_digest_X2_joined rfl rfl rfl (by decide +kernel) ⟨Nat.le_of_ble_eq_true rfl, Nat.le_of_ble_eq_true rfl⟩) ⟨RdP_blind, RdP_start (hP.sub (ws' := []) [] rfl) hZ⟩ rfl rfl hl.1 rfl (lv_room (Nat.le_of_ble_eq_true rfl)) dX2_digest_74 ⟨Nat.le_of_ble_eq_true rfl, Nat.le_of_ble_eq_true rfl⟩).run (fun r_31 hr_32 => ?_)
  subst hr_32
  refine lv_lstore_n (lv' := [(1, .long (((((((2371 * 31 + ((nI nw).toInt64)) * 31 + ((nI (zN σ)).toInt64)) * 31 + ((nI (zM σ)).toInt64)) * 31 + (aN false)) * 31 + (aN cg)) * 31 + (oN none)) * 31 + (oN none))), (0, .ref a)]) hx hb dX2_digest_77 rfl hl (by decide) rfl (fun ls hl => ?_)
  refine lv_lload_n hx hb dX2_digest_78 rfl (lv_at hl 0 rfl) ?_
  refine lv_aload_n hx hb dX2_digest_79 rfl (lv_at hl 1 rfl) ?_
  refine vp_callSi (va_runV (As := []) (rest := [.long (((((((2371 * 31 + ((nI nw).toInt64)) * 31 + ((nI (zN σ)).toInt64)) * 31 + ((nI (zM σ)).toInt64)) * 31 + (aN false)) * 31 + (aN cg)) * 31 + (oN none)) * 31 + (oN none))]) ⟨hx, hb, hml, hown, hts⟩ (c_X2_eaten l D cZ cI a o o' q (nw, false, cg, none, none, ea) ω ω' σ   ) (cwV 0 hts gX2_digest_X2_eaten rfl rfl rfl (by decide +kernel) ⟨Nat.le_of_ble_eq_true rfl, Nat.le_of_ble_eq_true rfl⟩) ⟨RdP_blind, va_recv hZ.1 hP (ci := 2) (q0 := 0) rfl rfl, RdP_start (hP.sub (ws' := pD cZ cI a o o' q (nw, false, cg, none, none, ea) ω ω' σ) [0, 1, 2, 3, 4, 5, 6, 7, 8, 9, 10, 11, 12, 13, 14, 15, 16, 17, 18] rfl) hZ⟩ rfl rfl hl.1 rfl (lv_room (Nat.le_of_ble_eq_true rfl)) dX2_digest_80 ⟨Nat.le_of_ble_eq_true rfl, Nat.le_of_ble_eq_true rfl⟩).run (fun r_33 hr_34 => ?_)
  subst hr_34
  refine rv_top (show _ = nI ea from rfl) ?_
  refine lv_i2l (v := (nI ea).toInt64) hx hb dX2_digest_83 rfl ?_
  refine vp_callSl (va_runS (As := [.long (((((((2371 * 31 + ((nI nw).toInt64)) * 31 + ((nI (zN σ)).toInt64)) * 31 + ((nI (zM σ)).toInt64)) * 31 + (aN false)) * 31 + (aN cg)) * 31 + (oN none)) * 31 + (oN none)), .long ((nI ea).toInt64)]) (rest := []) ⟨hx, hb, hml, hown, hts⟩ (c_X2_joined l D cZ cI   (((((((2371 * 31 + ((nI nw).toInt64)) * 31 + ((nI (zN σ)).toInt64)) * 31 + ((nI (zM σ)).toInt64)) * 31 + (aN false)) * 31 + (aN cg)) * 31 + (oN none)) * 31 + (oN none)) ((nI ea).toInt64) ) (va_cwS 2 hts gX2_digest_X2_joined rfl rfl rfl (by decide +kernel) ⟨Nat.le_of_ble_eq_true rfl, Nat.le_of_ble_eq_true rfl⟩) ⟨RdP_blind, RdP_start (hP.sub (ws' := []) [] rfl) hZ⟩ rfl rfl hl.1 rfl (lv_room (Nat.le_of_ble_eq_true rfl)) dX2_digest_84 ⟨Nat.le_of_ble_eq_true rfl, Nat.le_of_ble_eq_true rfl⟩).run (fun r_35 hr_36 => ?_)
  subst hr_36
  refine lv_lstore_n (lv' := [(1, .long ((((((((2371 * 31 + ((nI nw).toInt64)) * 31 + ((nI (zN σ)).toInt64)) * 31 + ((nI (zM σ)).toInt64)) * 31 + (aN false)) * 31 + (aN cg)) * 31 + (oN none)) * 31 + (oN none)) * 31 + ((nI ea).toInt64))), (0, .ref a)]) hx hb dX2_digest_87 rfl hl (by decide) rfl (fun ls hl => ?_)
  refine lv_lload_n hx hb dX2_digest_88 rfl (lv_at hl 0 rfl) ?_
  refine lv_aload_n hx hb dX2_digest_89 rfl (lv_at hl 1 rfl) ?_
  refine vp_callSi (va_runV (As := []) (rest := [.long ((((((((2371 * 31 + ((nI nw).toInt64)) * 31 + ((nI (zN σ)).toInt64)) * 31 + ((nI (zM σ)).toInt64)) * 31 + (aN false)) * 31 + (aN cg)) * 31 + (oN none)) * 31 + (oN none)) * 31 + ((nI ea).toInt64))]) ⟨hx, hb, hml, hown, hts⟩ (co_X2_turnsToCatch l D cZ cI a o o' q nw cg ea ω ω' σ   ) (cwV 0 hts gX2_digest_X2_turnsToCatch rfl rfl rfl (by decide +kernel) ⟨Nat.le_of_ble_eq_true rfl, Nat.le_of_ble_eq_true rfl⟩) ⟨RdP_blind, va_recv hZ.1 hP (ci := 2) (q0 := 0) rfl rfl, RdP_start (hP.sub (ws' := pD cZ cI a o o' q (nw, false, cg, none, none, ea) ω ω' σ) [0, 1, 2, 3, 4, 5, 6, 7, 8, 9, 10, 11, 12, 13, 14, 15, 16, 17, 18] rfl) hZ⟩ rfl rfl hl.1 rfl (lv_room (Nat.le_of_ble_eq_true rfl)) dX2_digest_90 ⟨Nat.le_of_ble_eq_true rfl, Nat.le_of_ble_eq_true rfl⟩).run (fun r_37 hr_38 => ?_)
  subst hr_38
  refine rv_top (show _ = (-1) from rfl) ?_
  refine lv_i2l (v := ((-1 : Int32)).toInt64) hx hb dX2_digest_93 rfl ?_
  refine vp_callSl (va_runS (As := [.long ((((((((2371 * 31 + ((nI nw).toInt64)) * 31 + ((nI (zN σ)).toInt64)) * 31 + ((nI (zM σ)).toInt64)) * 31 + (aN false)) * 31 + (aN cg)) * 31 + (oN none)) * 31 + (oN none)) * 31 + ((nI ea).toInt64)), .long (((-1 : Int32)).toInt64)]) (rest := []) ⟨hx, hb, hml, hown, hts⟩ (c_X2_joined l D cZ cI   ((((((((2371 * 31 + ((nI nw).toInt64)) * 31 + ((nI (zN σ)).toInt64)) * 31 + ((nI (zM σ)).toInt64)) * 31 + (aN false)) * 31 + (aN cg)) * 31 + (oN none)) * 31 + (oN none)) * 31 + ((nI ea).toInt64)) (((-1 : Int32)).toInt64) ) (va_cwS 2 hts gX2_digest_X2_joined rfl rfl rfl (by decide +kernel) ⟨Nat.le_of_ble_eq_true rfl, Nat.le_of_ble_eq_true rfl⟩) ⟨RdP_blind, RdP_start (hP.sub (ws' := []) [] rfl) hZ⟩ rfl rfl hl.1 rfl (lv_room (Nat.le_of_ble_eq_true rfl)) dX2_digest_94 ⟨Nat.le_of_ble_eq_true rfl, Nat.le_of_ble_eq_true rfl⟩).run (fun r_39 hr_40 => ?_)
  subst hr_40
  refine lv_lstore_n (lv' := [(1, .long (((((((((2371 * 31 + ((nI nw).toInt64)) * 31 + ((nI (zN σ)).toInt64)) * 31 + ((nI (zM σ)).toInt64)) * 31 + (aN false)) * 31 + (aN cg)) * 31 + (oN none)) * 31 + (oN none)) * 31 + ((nI ea).toInt64)) * 31 + (((-1 : Int32)).toInt64))), (0, .ref a)]) hx hb dX2_digest_97 rfl hl (by decide) rfl (fun ls hl => ?_)
  refine lv_lload_n hx hb dX2_digest_98 rfl (lv_at hl 0 rfl) ?_
  refine lv_aload_n hx hb dX2_digest_99 rfl (lv_at hl 1 rfl) ?_
  refine vp_callSi (va_runV (As := []) (rest := [.long (((((((((2371 * 31 + ((nI nw).toInt64)) * 31 + ((nI (zN σ)).toInt64)) * 31 + ((nI (zM σ)).toInt64)) * 31 + (aN false)) * 31 + (aN cg)) * 31 + (oN none)) * 31 + (oN none)) * 31 + ((nI ea).toInt64)) * 31 + (((-1 : Int32)).toInt64))]) ⟨hx, hb, hml, hown, hts⟩ (co_X2_safeNow l D cZ cI a o o' q nw cg ea ω ω' σ   ) (cwV 0 hts gX2_digest_X2_safeNow rfl rfl rfl (by decide +kernel) ⟨Nat.le_of_ble_eq_true rfl, Nat.le_of_ble_eq_true rfl⟩) ⟨RdP_blind, va_recv hZ.1 hP (ci := 2) (q0 := 0) rfl rfl, RdP_start (hP.sub (ws' := pD cZ cI a o o' q (nw, false, cg, none, none, ea) ω ω' σ) [0, 1, 2, 3, 4, 5, 6, 7, 8, 9, 10, 11, 12, 13, 14, 15, 16, 17, 18] rfl) hZ⟩ rfl rfl hl.1 rfl (lv_room (Nat.le_of_ble_eq_true rfl)) dX2_digest_100 ⟨Nat.le_of_ble_eq_true rfl, Nat.le_of_ble_eq_true rfl⟩).run (fun r_41 hr_42 => ?_)
  subst hr_42
  refine rv_top (show _ = nI 0 from rfl) ?_
  refine lv_i2l (v := (nI 0).toInt64) hx hb dX2_digest_103 rfl ?_
  refine vp_callSl (va_runS (As := [.long (((((((((2371 * 31 + ((nI nw).toInt64)) * 31 + ((nI (zN σ)).toInt64)) * 31 + ((nI (zM σ)).toInt64)) * 31 + (aN false)) * 31 + (aN cg)) * 31 + (oN none)) * 31 + (oN none)) * 31 + ((nI ea).toInt64)) * 31 + (((-1 : Int32)).toInt64)), .long ((nI 0).toInt64)]) (rest := []) ⟨hx, hb, hml, hown, hts⟩ (c_X2_joined l D cZ cI   (((((((((2371 * 31 + ((nI nw).toInt64)) * 31 + ((nI (zN σ)).toInt64)) * 31 + ((nI (zM σ)).toInt64)) * 31 + (aN false)) * 31 + (aN cg)) * 31 + (oN none)) * 31 + (oN none)) * 31 + ((nI ea).toInt64)) * 31 + (((-1 : Int32)).toInt64)) ((nI 0).toInt64) ) (va_cwS 2 hts gX2_digest_X2_joined rfl rfl rfl (by decide +kernel) ⟨Nat.le_of_ble_eq_true rfl, Nat.le_of_ble_eq_true rfl⟩) ⟨RdP_blind, RdP_start (hP.sub (ws' := []) [] rfl) hZ⟩ rfl rfl hl.1 rfl (lv_room (Nat.le_of_ble_eq_true rfl)) dX2_digest_104 ⟨Nat.le_of_ble_eq_true rfl, Nat.le_of_ble_eq_true rfl⟩).run (fun r_43 hr_44 => ?_)
  subst hr_44
  refine lv_lstore_n (lv' := [(1, .long ((((((((((2371 * 31 + ((nI nw).toInt64)) * 31 + ((nI (zN σ)).toInt64)) * 31 + ((nI (zM σ)).toInt64)) * 31 + (aN false)) * 31 + (aN cg)) * 31 + (oN none)) * 31 + (oN none)) * 31 + ((nI ea).toInt64)) * 31 + (((-1 : Int32)).toInt64)) * 31 + ((nI 0).toInt64))), (0, .ref a)]) hx hb dX2_digest_107 rfl hl (by decide) rfl (fun ls hl => ?_)
  refine lv_lload_n hx hb dX2_digest_108 rfl (lv_at hl 0 rfl) ?_
  refine lv_aload_n hx hb dX2_digest_109 rfl (lv_at hl 1 rfl) ?_
  refine vp_callSi (va_runV (As := []) (rest := [.long ((((((((((2371 * 31 + ((nI nw).toInt64)) * 31 + ((nI (zN σ)).toInt64)) * 31 + ((nI (zM σ)).toInt64)) * 31 + (aN false)) * 31 + (aN cg)) * 31 + (oN none)) * 31 + (oN none)) * 31 + ((nI ea).toInt64)) * 31 + (((-1 : Int32)).toInt64)) * 31 + ((nI 0).toInt64))]) ⟨hx, hb, hml, hown, hts⟩ (co_X2_bestGo l D cZ cI a o o' q nw cg ea ω ω' σ   ) (cwV 0 hts gX2_digest_X2_bestGo rfl rfl rfl (by decide +kernel) ⟨Nat.le_of_ble_eq_true rfl, Nat.le_of_ble_eq_true rfl⟩) ⟨RdP_blind, va_recv hZ.1 hP (ci := 2) (q0 := 0) rfl rfl, RdP_start (hP.sub (ws' := pD cZ cI a o o' q (nw, false, cg, none, none, ea) ω ω' σ) [0, 1, 2, 3, 4, 5, 6, 7, 8, 9, 10, 11, 12, 13, 14, 15, 16, 17, 18] rfl) hZ⟩ rfl rfl hl.1 rfl (lv_room (Nat.le_of_ble_eq_true rfl)) dX2_digest_110 ⟨Nat.le_of_ble_eq_true rfl, Nat.le_of_ble_eq_true rfl⟩).run (fun r_45 hr_46 => ?_)
  subst hr_46
  refine rv_top (show _ = (-1) from rfl) ?_
  refine lv_i2l (v := ((-1 : Int32)).toInt64) hx hb dX2_digest_113 rfl ?_
  refine vp_callSl (va_runS (As := [.long ((((((((((2371 * 31 + ((nI nw).toInt64)) * 31 + ((nI (zN σ)).toInt64)) * 31 + ((nI (zM σ)).toInt64)) * 31 + (aN false)) * 31 + (aN cg)) * 31 + (oN none)) * 31 + (oN none)) * 31 + ((nI ea).toInt64)) * 31 + (((-1 : Int32)).toInt64)) * 31 + ((nI 0).toInt64)), .long (((-1 : Int32)).toInt64)]) (rest := []) ⟨hx, hb, hml, hown, hts⟩ (c_X2_joined l D cZ cI   ((((((((((2371 * 31 + ((nI nw).toInt64)) * 31 + ((nI (zN σ)).toInt64)) * 31 + ((nI (zM σ)).toInt64)) * 31 + (aN false)) * 31 + (aN cg)) * 31 + (oN none)) * 31 + (oN none)) * 31 + ((nI ea).toInt64)) * 31 + (((-1 : Int32)).toInt64)) * 31 + ((nI 0).toInt64)) (((-1 : Int32)).toInt64) ) (va_cwS 2 hts gX2_digest_X2_joined rfl rfl rfl (by decide +kernel) ⟨Nat.le_of_ble_eq_true rfl, Nat.le_of_ble_eq_true rfl⟩) ⟨RdP_blind, RdP_start (hP.sub (ws' := []) [] rfl) hZ⟩ rfl rfl hl.1 rfl (lv_room (Nat.le_of_ble_eq_true rfl)) dX2_digest_114 ⟨Nat.le_of_ble_eq_true rfl, Nat.le_of_ble_eq_true rfl⟩).run (fun r_47 hr_48 => ?_)
  subst hr_48
  refine lv_lstore_n (lv' := [(1, .long (((((((((((2371 * 31 + ((nI nw).toInt64)) * 31 + ((nI (zN σ)).toInt64)) * 31 + ((nI (zM σ)).toInt64)) * 31 + (aN false)) * 31 + (aN cg)) * 31 + (oN none)) * 31 + (oN none)) * 31 + ((nI ea).toInt64)) * 31 + (((-1 : Int32)).toInt64)) * 31 + ((nI 0).toInt64)) * 31 + (((-1 : Int32)).toInt64))), (0, .ref a)]) hx hb dX2_digest_117 rfl hl (by decide) rfl (fun ls hl => ?_)
  refine lv_lload_n hx hb dX2_digest_118 rfl (lv_at hl 0 rfl) ?_
  refine lv_aload_n hx hb dX2_digest_119 rfl (lv_at hl 1 rfl) ?_
  refine vp_callSi (va_runV (As := []) (rest := [.long (((((((((((2371 * 31 + ((nI nw).toInt64)) * 31 + ((nI (zN σ)).toInt64)) * 31 + ((nI (zM σ)).toInt64)) * 31 + (aN false)) * 31 + (aN cg)) * 31 + (oN none)) * 31 + (oN none)) * 31 + ((nI ea).toInt64)) * 31 + (((-1 : Int32)).toInt64)) * 31 + ((nI 0).toInt64)) * 31 + (((-1 : Int32)).toInt64))]) ⟨hx, hb, hml, hown, hts⟩ (c_X2_pairsCaught l D cZ cI a o o' q (nw, false, cg, none, none, ea) ω ω' σ   (by first | assumption | omega) (by first | assumption | omega) (by first | assumption | omega)) (cwV 0 hts gX2_digest_X2_pairsCaught rfl rfl rfl (by decide +kernel) ⟨Nat.le_of_ble_eq_true rfl, Nat.le_of_ble_eq_true rfl⟩) ⟨RdP_blind, va_recv hZ.1 hP (ci := 2) (q0 := 0) rfl rfl, RdP_start (hP.sub (ws' := pD cZ cI a o o' q (nw, false, cg, none, none, ea) ω ω' σ) [0, 1, 2, 3, 4, 5, 6, 7, 8, 9, 10, 11, 12, 13, 14, 15, 16, 17, 18] rfl) hZ⟩ rfl rfl hl.1 rfl (lv_room (Nat.le_of_ble_eq_true rfl)) dX2_digest_120 ⟨Nat.le_of_ble_eq_true rfl, Nat.le_of_ble_eq_true rfl⟩).run (fun r_49 hr_50 => ?_)
  subst hr_50
  refine rv_top (show _ = nI (pcL ω σ (nw) 64 0 0) from rfl) ?_
  refine lv_i2l (v := (nI (pcL ω σ (nw) 64 0 0)).toInt64) hx hb dX2_digest_123 rfl ?_
  refine vp_callSl (va_runS (As := [.long (((((((((((2371 * 31 + ((nI nw).toInt64)) * 31 + ((nI (zN σ)).toInt64)) * 31 + ((nI (zM σ)).toInt64)) * 31 + (aN false)) * 31 + (aN cg)) * 31 + (oN none)) * 31 + (oN none)) * 31 + ((nI ea).toInt64)) * 31 + (((-1 : Int32)).toInt64)) * 31 + ((nI 0).toInt64)) * 31 + (((-1 : Int32)).toInt64)), .long ((nI (pcL ω σ (nw) 64 0 0)).toInt64)]) (rest := []) ⟨hx, hb, hml, hown, hts⟩ (c_X2_joined l D cZ cI   (((((((((((2371 * 31 + ((nI nw).toInt64)) * 31 + ((nI (zN σ)).toInt64)) * 31 + ((nI (zM σ)).toInt64)) * 31 + (aN false)) * 31 + (aN cg)) * 31 + (oN none)) * 31 + (oN none)) * 31 + ((nI ea).toInt64)) * 31 + (((-1 : Int32)).toInt64)) * 31 + ((nI 0).toInt64)) * 31 + (((-1 : Int32)).toInt64)) ((nI (pcL ω σ (nw) 64 0 0)).toInt64) ) (va_cwS 2 hts gX2_digest_X2_joined rfl rfl rfl (by decide +kernel) ⟨Nat.le_of_ble_eq_true rfl, Nat.le_of_ble_eq_true rfl⟩) ⟨RdP_blind, RdP_start (hP.sub (ws' := []) [] rfl) hZ⟩ rfl rfl hl.1 rfl (lv_room (Nat.le_of_ble_eq_true rfl)) dX2_digest_124 ⟨Nat.le_of_ble_eq_true rfl, Nat.le_of_ble_eq_true rfl⟩).run (fun r_51 hr_52 => ?_)
  subst hr_52
  refine lv_lstore_n (lv' := [(1, .long ((((((((((((2371 * 31 + ((nI nw).toInt64)) * 31 + ((nI (zN σ)).toInt64)) * 31 + ((nI (zM σ)).toInt64)) * 31 + (aN false)) * 31 + (aN cg)) * 31 + (oN none)) * 31 + (oN none)) * 31 + ((nI ea).toInt64)) * 31 + (((-1 : Int32)).toInt64)) * 31 + ((nI 0).toInt64)) * 31 + (((-1 : Int32)).toInt64)) * 31 + ((nI (pcL ω σ (nw) 64 0 0)).toInt64))), (0, .ref a)]) hx hb dX2_digest_127 rfl hl (by decide) rfl (fun ls hl => ?_)
  refine lv_lload_n hx hb dX2_digest_128 rfl (lv_at hl 0 rfl) ?_
  refine lv_aload_n hx hb dX2_digest_129 rfl (lv_at hl 1 rfl) ?_
  refine vp_callSi (va_runV (As := []) (rest := [.long ((((((((((((2371 * 31 + ((nI nw).toInt64)) * 31 + ((nI (zN σ)).toInt64)) * 31 + ((nI (zM σ)).toInt64)) * 31 + (aN false)) * 31 + (aN cg)) * 31 + (oN none)) * 31 + (oN none)) * 31 + ((nI ea).toInt64)) * 31 + (((-1 : Int32)).toInt64)) * 31 + ((nI 0).toInt64)) * 31 + (((-1 : Int32)).toInt64)) * 31 + ((nI (pcL ω σ (nw) 64 0 0)).toInt64))]) ⟨hx, hb, hml, hown, hts⟩ (c_X2_longestChase l D cZ cI a o o' q (nw, false, cg, none, none, ea) ω ω' σ   (by first | assumption | omega) (by first | assumption | omega) (by first | assumption | omega)) (cwV 0 hts gX2_digest_X2_longestChase rfl rfl rfl (by decide +kernel) ⟨Nat.le_of_ble_eq_true rfl, Nat.le_of_ble_eq_true rfl⟩) ⟨RdP_blind, va_recv hZ.1 hP (ci := 2) (q0 := 0) rfl rfl, RdP_start (hP.sub (ws' := pD cZ cI a o o' q (nw, false, cg, none, none, ea) ω ω' σ) [0, 1, 2, 3, 4, 5, 6, 7, 8, 9, 10, 11, 12, 13, 14, 15, 16, 17, 18] rfl) hZ⟩ rfl rfl hl.1 rfl (lv_room (Nat.le_of_ble_eq_true rfl)) dX2_digest_130 ⟨Nat.le_of_ble_eq_true rfl, Nat.le_of_ble_eq_true rfl⟩).run (fun r_53 hr_54 => ?_)
  subst hr_54
  refine rv_top (show _ = iO (lcL ω σ (nw) 64 0 none) from rfl) ?_
  refine lv_i2l (v := oN (lcL ω σ (nw) 64 0 none)) hx hb dX2_digest_133 rfl ?_
  refine vp_callSl (va_runS (As := [.long ((((((((((((2371 * 31 + ((nI nw).toInt64)) * 31 + ((nI (zN σ)).toInt64)) * 31 + ((nI (zM σ)).toInt64)) * 31 + (aN false)) * 31 + (aN cg)) * 31 + (oN none)) * 31 + (oN none)) * 31 + ((nI ea).toInt64)) * 31 + (((-1 : Int32)).toInt64)) * 31 + ((nI 0).toInt64)) * 31 + (((-1 : Int32)).toInt64)) * 31 + ((nI (pcL ω σ (nw) 64 0 0)).toInt64)), .long (oN (lcL ω σ (nw) 64 0 none))]) (rest := []) ⟨hx, hb, hml, hown, hts⟩ (c_X2_joined l D cZ cI   ((((((((((((2371 * 31 + ((nI nw).toInt64)) * 31 + ((nI (zN σ)).toInt64)) * 31 + ((nI (zM σ)).toInt64)) * 31 + (aN false)) * 31 + (aN cg)) * 31 + (oN none)) * 31 + (oN none)) * 31 + ((nI ea).toInt64)) * 31 + (((-1 : Int32)).toInt64)) * 31 + ((nI 0).toInt64)) * 31 + (((-1 : Int32)).toInt64)) * 31 + ((nI (pcL ω σ (nw) 64 0 0)).toInt64)) (oN (lcL ω σ (nw) 64 0 none)) ) (va_cwS 2 hts gX2_digest_X2_joined rfl rfl rfl (by decide +kernel) ⟨Nat.le_of_ble_eq_true rfl, Nat.le_of_ble_eq_true rfl⟩) ⟨RdP_blind, RdP_start (hP.sub (ws' := []) [] rfl) hZ⟩ rfl rfl hl.1 rfl (lv_room (Nat.le_of_ble_eq_true rfl)) dX2_digest_134 ⟨Nat.le_of_ble_eq_true rfl, Nat.le_of_ble_eq_true rfl⟩).run (fun r_55 hr_56 => ?_)
  subst hr_56
  refine lv_lstore_n (lv' := [(1, .long (((((((((((((2371 * 31 + ((nI nw).toInt64)) * 31 + ((nI (zN σ)).toInt64)) * 31 + ((nI (zM σ)).toInt64)) * 31 + (aN false)) * 31 + (aN cg)) * 31 + (oN none)) * 31 + (oN none)) * 31 + ((nI ea).toInt64)) * 31 + (((-1 : Int32)).toInt64)) * 31 + ((nI 0).toInt64)) * 31 + (((-1 : Int32)).toInt64)) * 31 + ((nI (pcL ω σ (nw) 64 0 0)).toInt64)) * 31 + (oN (lcL ω σ (nw) 64 0 none)))), (0, .ref a)]) hx hb dX2_digest_137 rfl hl (by decide) rfl (fun ls hl => ?_)
  refine lv_lload_n hx hb dX2_digest_138 rfl (lv_at hl 0 rfl) ?_
  refine lv_aload_n hx hb dX2_digest_139 rfl (lv_at hl 1 rfl) ?_
  refine vp_callSi (va_runV (As := []) (rest := [.long (((((((((((((2371 * 31 + ((nI nw).toInt64)) * 31 + ((nI (zN σ)).toInt64)) * 31 + ((nI (zM σ)).toInt64)) * 31 + (aN false)) * 31 + (aN cg)) * 31 + (oN none)) * 31 + (oN none)) * 31 + ((nI ea).toInt64)) * 31 + (((-1 : Int32)).toInt64)) * 31 + ((nI 0).toInt64)) * 31 + (((-1 : Int32)).toInt64)) * 31 + ((nI (pcL ω σ (nw) 64 0 0)).toInt64)) * 31 + (oN (lcL ω σ (nw) 64 0 none)))]) ⟨hx, hb, hml, hown, hts⟩ (co_X2_bestDoorToLock l D cZ cI a o o' q nw cg ea ω ω' σ   ) (cwV 0 hts gX2_digest_X2_bestDoorToLock rfl rfl rfl (by decide +kernel) ⟨Nat.le_of_ble_eq_true rfl, Nat.le_of_ble_eq_true rfl⟩) ⟨RdP_blind, va_recv hZ.1 hP (ci := 2) (q0 := 0) rfl rfl, RdP_start (hP.sub (ws' := pD cZ cI a o o' q (nw, false, cg, none, none, ea) ω ω' σ) [0, 1, 2, 3, 4, 5, 6, 7, 8, 9, 10, 11, 12, 13, 14, 15, 16, 17, 18] rfl) hZ⟩ rfl rfl hl.1 rfl (lv_room (Nat.le_of_ble_eq_true rfl)) dX2_digest_140 ⟨Nat.le_of_ble_eq_true rfl, Nat.le_of_ble_eq_true rfl⟩).run (fun r_57 hr_58 => ?_)
  subst hr_58
  refine rv_top (show _ = (-1) from rfl) ?_
  refine lv_i2l (v := ((-1 : Int32)).toInt64) hx hb dX2_digest_143 rfl ?_
  refine vp_callSl (va_runS (As := [.long (((((((((((((2371 * 31 + ((nI nw).toInt64)) * 31 + ((nI (zN σ)).toInt64)) * 31 + ((nI (zM σ)).toInt64)) * 31 + (aN false)) * 31 + (aN cg)) * 31 + (oN none)) * 31 + (oN none)) * 31 + ((nI ea).toInt64)) * 31 + (((-1 : Int32)).toInt64)) * 31 + ((nI 0).toInt64)) * 31 + (((-1 : Int32)).toInt64)) * 31 + ((nI (pcL ω σ (nw) 64 0 0)).toInt64)) * 31 + (oN (lcL ω σ (nw) 64 0 none))), .long (((-1 : Int32)).toInt64)]) (rest := []) ⟨hx, hb, hml, hown, hts⟩ (c_X2_joined l D cZ cI   (((((((((((((2371 * 31 + ((nI nw).toInt64)) * 31 + ((nI (zN σ)).toInt64)) * 31 + ((nI (zM σ)).toInt64)) * 31 + (aN false)) * 31 + (aN cg)) * 31 + (oN none)) * 31 + (oN none)) * 31 + ((nI ea).toInt64)) * 31 + (((-1 : Int32)).toInt64)) * 31 + ((nI 0).toInt64)) * 31 + (((-1 : Int32)).toInt64)) * 31 + ((nI (pcL ω σ (nw) 64 0 0)).toInt64)) * 31 + (oN (lcL ω σ (nw) 64 0 none))) (((-1 : Int32)).toInt64) ) (va_cwS 2 hts gX2_digest_X2_joined rfl rfl rfl (by decide +kernel) ⟨Nat.le_of_ble_eq_true rfl, Nat.le_of_ble_eq_true rfl⟩) ⟨RdP_blind, RdP_start (hP.sub (ws' := []) [] rfl) hZ⟩ rfl rfl hl.1 rfl (lv_room (Nat.le_of_ble_eq_true rfl)) dX2_digest_144 ⟨Nat.le_of_ble_eq_true rfl, Nat.le_of_ble_eq_true rfl⟩).run (fun r_59 hr_60 => ?_)
  subst hr_60
  refine lv_lstore_n (lv' := [(1, .long ((((((((((((((2371 * 31 + ((nI nw).toInt64)) * 31 + ((nI (zN σ)).toInt64)) * 31 + ((nI (zM σ)).toInt64)) * 31 + (aN false)) * 31 + (aN cg)) * 31 + (oN none)) * 31 + (oN none)) * 31 + ((nI ea).toInt64)) * 31 + (((-1 : Int32)).toInt64)) * 31 + ((nI 0).toInt64)) * 31 + (((-1 : Int32)).toInt64)) * 31 + ((nI (pcL ω σ (nw) 64 0 0)).toInt64)) * 31 + (oN (lcL ω σ (nw) 64 0 none))) * 31 + (((-1 : Int32)).toInt64))), (0, .ref a)]) hx hb dX2_digest_147 rfl hl (by decide) rfl (fun ls hl => ?_)
  refine lv_aload_n hx hb dX2_digest_148 rfl (lv_at hl 1 rfl) ?_
  refine lv_lload_n hx hb dX2_digest_149 rfl (lv_at hl 0 rfl) ?_
  refine vp_callSl (va_runV (As := [.long ((((((((((((((2371 * 31 + ((nI nw).toInt64)) * 31 + ((nI (zN σ)).toInt64)) * 31 + ((nI (zM σ)).toInt64)) * 31 + (aN false)) * 31 + (aN cg)) * 31 + (oN none)) * 31 + (oN none)) * 31 + ((nI ea).toInt64)) * 31 + (((-1 : Int32)).toInt64)) * 31 + ((nI 0).toInt64)) * 31 + (((-1 : Int32)).toInt64)) * 31 + ((nI (pcL ω σ (nw) 64 0 0)).toInt64)) * 31 + (oN (lcL ω σ (nw) 64 0 none))) * 31 + (((-1 : Int32)).toInt64))]) (rest := []) ⟨hx, hb, hml, hown, hts⟩ (c_X2_joinedRooms l D cZ cI a o o' q (nw, false, cg, none, none, ea) ω ω' σ  ((((((((((((((2371 * 31 + ((nI nw).toInt64)) * 31 + ((nI (zN σ)).toInt64)) * 31 + ((nI (zM σ)).toInt64)) * 31 + (aN false)) * 31 + (aN cg)) * 31 + (oN none)) * 31 + (oN none)) * 31 + ((nI ea).toInt64)) * 31 + (((-1 : Int32)).toInt64)) * 31 + ((nI 0).toInt64)) * 31 + (((-1 : Int32)).toInt64)) * 31 + ((nI (pcL ω σ (nw) 64 0 0)).toInt64)) * 31 + (oN (lcL ω σ (nw) 64 0 none))) * 31 + (((-1 : Int32)).toInt64)) (by first | assumption | omega)) (cwV 1 hts gX2_digest_X2_joinedRooms rfl rfl rfl (by decide +kernel) ⟨Nat.le_of_ble_eq_true rfl, Nat.le_of_ble_eq_true rfl⟩) ⟨RdP_blind, va_recv hZ.1 hP (ci := 2) (q0 := 0) rfl rfl, RdP_start (hP.sub (ws' := pD cZ cI a o o' q (nw, false, cg, none, none, ea) ω ω' σ) [0, 1, 2, 3, 4, 5, 6, 7, 8, 9, 10, 11, 12, 13, 14, 15, 16, 17, 18] rfl) hZ⟩ rfl rfl hl.1 rfl (lv_room (Nat.le_of_ble_eq_true rfl)) dX2_digest_150 ⟨Nat.le_of_ble_eq_true rfl, Nat.le_of_ble_eq_true rfl⟩).run (fun r_61 hr_62 => ?_)
  subst hr_62
  refine lv_lstore_n (lv' := [(1, .long (jrL σ ((zN σ)) 0 ((((((((((((((2371 * 31 + ((nI nw).toInt64)) * 31 + ((nI (zN σ)).toInt64)) * 31 + ((nI (zM σ)).toInt64)) * 31 + (aN false)) * 31 + (aN cg)) * 31 + (oN none)) * 31 + (oN none)) * 31 + ((nI ea).toInt64)) * 31 + (((-1 : Int32)).toInt64)) * 31 + ((nI 0).toInt64)) * 31 + (((-1 : Int32)).toInt64)) * 31 + ((nI (pcL ω σ (nw) 64 0 0)).toInt64)) * 31 + (oN (lcL ω σ (nw) 64 0 none))) * 31 + (((-1 : Int32)).toInt64)))), (0, .ref a)]) hx hb dX2_digest_153 rfl hl (by decide) rfl (fun ls hl => ?_)
  refine lv_aload_n hx hb dX2_digest_154 rfl (lv_at hl 1 rfl) ?_
  refine lv_lload_n hx hb dX2_digest_155 rfl (lv_at hl 0 rfl) ?_
  refine vp_callSl (va_runV (As := [.long (jrL σ ((zN σ)) 0 ((((((((((((((2371 * 31 + ((nI nw).toInt64)) * 31 + ((nI (zN σ)).toInt64)) * 31 + ((nI (zM σ)).toInt64)) * 31 + (aN false)) * 31 + (aN cg)) * 31 + (oN none)) * 31 + (oN none)) * 31 + ((nI ea).toInt64)) * 31 + (((-1 : Int32)).toInt64)) * 31 + ((nI 0).toInt64)) * 31 + (((-1 : Int32)).toInt64)) * 31 + ((nI (pcL ω σ (nw) 64 0 0)).toInt64)) * 31 + (oN (lcL ω σ (nw) 64 0 none))) * 31 + (((-1 : Int32)).toInt64)))]) (rest := []) ⟨hx, hb, hml, hown, hts⟩ (c_X2_joinedDoors l D cZ cI a o o' q (nw, false, cg, none, none, ea) ω ω' σ  (jrL σ ((zN σ)) 0 ((((((((((((((2371 * 31 + ((nI nw).toInt64)) * 31 + ((nI (zN σ)).toInt64)) * 31 + ((nI (zM σ)).toInt64)) * 31 + (aN false)) * 31 + (aN cg)) * 31 + (oN none)) * 31 + (oN none)) * 31 + ((nI ea).toInt64)) * 31 + (((-1 : Int32)).toInt64)) * 31 + ((nI 0).toInt64)) * 31 + (((-1 : Int32)).toInt64)) * 31 + ((nI (pcL ω σ (nw) 64 0 0)).toInt64)) * 31 + (oN (lcL ω σ (nw) 64 0 none))) * 31 + (((-1 : Int32)).toInt64))) (by first | assumption | omega) (by first | assumption | omega)) (cwV 1 hts gX2_digest_X2_joinedDoors rfl rfl rfl (by decide +kernel) ⟨Nat.le_of_ble_eq_true rfl, Nat.le_of_ble_eq_true rfl⟩) ⟨RdP_blind, va_recv hZ.1 hP (ci := 2) (q0 := 0) rfl rfl, RdP_start (hP.sub (ws' := pD cZ cI a o o' q (nw, false, cg, none, none, ea) ω ω' σ) [0, 1, 2, 3, 4, 5, 6, 7, 8, 9, 10, 11, 12, 13, 14, 15, 16, 17, 18] rfl) hZ⟩ rfl rfl hl.1 rfl (lv_room (Nat.le_of_ble_eq_true rfl)) dX2_digest_156 ⟨Nat.le_of_ble_eq_true rfl, Nat.le_of_ble_eq_true rfl⟩).run (fun r_63 hr_64 => ?_)
  subst hr_64
  exact W.lret (v := jdL σ (nw) ((zM σ)) 0 (jrL σ ((zN σ)) 0 ((((((((((((((2371 * 31 + ((nI nw).toInt64)) * 31 + ((nI (zN σ)).toInt64)) * 31 + ((nI (zM σ)).toInt64)) * 31 + (aN false)) * 31 + (aN cg)) * 31 + (oN none)) * 31 + (oN none)) * 31 + ((nI ea).toInt64)) * 31 + (((-1 : Int32)).toInt64)) * 31 + ((nI 0).toInt64)) * 31 + (((-1 : Int32)).toInt64)) * 31 + ((nI (pcL ω σ (nw) 64 0 0)).toInt64)) * 31 + (oN (lcL ω σ (nw) 64 0 none))) * 31 + (((-1 : Int32)).toInt64)))) hx hb hr (fun t ht hW => ⟨_, rfl, rfl, ht⟩) (fun q h => absurd h List.not_mem_nil) dX2_digest_159

