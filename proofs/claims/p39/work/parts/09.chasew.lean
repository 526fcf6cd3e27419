set_option maxHeartbeats 4000000 in
set_option maxRecDepth 100000 in
theorem c_X0_makeRoom (l : Launch) (D : va_G) (cZ cI : ClassId) (q : Nat → Nat) (σ : HS) (sz : Nat) (b : Bool) (hσ : zOk σ) (h8 : zN σ < 8) : Met l yX0_makeRoom wsX0_makeRoom ({ frames := 0, cells := 0, slots := 0, locals := 0 }) (WrP D cZ cI [.ref (q 0), .int (bI b)] (pH cZ cI q σ) sz) (WrI D (pH cZ cI q (zN σ + 1, zM σ, va_up (zS σ) (zN σ) b, zC σ, zF σ, zG σ, zP σ, zT σ, zL σ)) (va_A (pH cZ cI q σ) sz) (nI (zN σ + 1 - 1))) 0 0 (va_A (pH cZ cI q σ) sz) := by
  refine Met.ofW (cc := cX0_makeRoom) (maxL := 2) (ret := (some .int)) (by decide) rfl ?_
  intro p e s m args below meth c s₁ B hml hv
  obtain ⟨rfl, hsz, hP, hZ, hD0⟩ := hv
  have hx := B.exec
  have hb := B.bytes
  have hr := B.returns
  have hts := atoms_spec (ws := wsX0_makeRoom) B.pre
  have hown : s.vm.findClass RX0 = some m.cls := findClass_of_methodNamed B.named
  have hlocks := B.notSynchronized
  subst hsz
  have hD := hD0.self (sz := s.heap.size)
  generalize hAe : va_A (pH cZ cI q σ) s.heap.size = A at hD ⊢
  have hA : ∀ q : Nat, s.heap.size ≤ q → A q := fun q h => by rw [← hAe]; exact Or.inr h
  have hS : va_S A s.heap s.heap [] := va_S.rf
  have hP : va_P D vwCl (pH cZ cI q σ) s.heap := hP
  have hl := lv_entry ([.ref (q 0), .int (bI b)]) (n := 2) (Nat.le_of_ble_eq_true rfl)
  rw [lg_entry_eq]
  generalize (lg_sl ([.ref (q 0), .int (bI b)]) ++ List.replicate (2 - (lg_sl ([.ref (q 0), .int (bI b)])).length) Slot.unset).toArray = ls at hl ⊢
  have hl : lv_has ls 2 [(0, .ref (q 0)), (1, .int (bI b))] := hl
  have hin0 : ∀ w ∈ u_ws RX0 TX0 9, w ∈ wsX0_makeRoom := by decide +kernel
  have hf9 := hts (.fieldLink RX0 9 "DoorChase$House" "safe" "[Z") (by decide +kernel)
  have hf34 := hts (.fieldLink RX0 34 "DoorChase$House" "roomCount" "I") (by decide +kernel)
  obtain ⟨hσ1, hσ2, hσ3, hσ4, hσ5, hσ6, hσ7⟩ := id hσ
  refine lv_aload_n hx hb dX0_makeRoom_0 rfl (lv_at hl 0 rfl) ?_
  refine va_get (D := D) (ci := 0) (v := .ref (q 1)) (C := RX0) (T := TX0) (N := 9) hx hb hts hin0 hown hZ.1 hP 0 rfl rfl 1 (by decide) hf9 (fun _ h9 => h9) rfl dX0_makeRoom_1 ?_
  refine lv_aload_n hx hb dX0_makeRoom_4 rfl (lv_at hl 0 rfl) ?_
  refine va_get (D := D) (ci := 0) (v := .int (nI (zN σ))) (C := RX0) (T := TX0) (N := 9) hx hb hts hin0 hown hZ.1 hP 0 rfl rfl 0 (by decide) hf34 (fun _ h9 => h9) rfl dX0_makeRoom_5 ?_
  refine lv_iload_n hx hb dX0_makeRoom_8 rfl (lv_at hl 1 rfl) ?_
  refine rv_zast hx hb hZ.1 hP hD hS 1 0 rfl rfl (r := zN σ) (by omega) (by decide) (encB_up _ _ _) dX0_makeRoom_9 (fun H locs hP hD hS => ?_)
  have hP : va_P D vwCl (pH cZ cI q (zN σ, zM σ, va_up (zS σ) (zN σ) b, zC σ, zF σ, zG σ, zP σ, zT σ, zL σ)) H := hP
  have hD : va_D A (pH cZ cI q (zN σ, zM σ, va_up (zS σ) (zN σ) b, zC σ, zF σ, zG σ, zP σ, zT σ, zL σ)) := hD
  refine lv_aload_n hx hb dX0_makeRoom_10 rfl (lv_at hl 0 rfl) ?_
  refine lv_dup hx hb dX0_makeRoom_11 rfl ?_
  refine va_get (D := D) (ci := 0) (v := .int (nI (zN σ))) (C := RX0) (T := TX0) (N := 9) hx hb hts hin0 hown hZ.1 hP 0 rfl rfl 0 (by decide) hf34 (fun _ h9 => h9) rfl dX0_makeRoom_12 ?_
  refine lv_iconst (v := nI 1) hx hb dX0_makeRoom_15 (by decide) ?_
  refine rv_add hx hb dX0_makeRoom_16 ?_
  refine va_put (D := D) (ci := 0) (v := .int (nI (zN σ + 1))) (ty := .int) (C := RX0) (T := TX0) (N := 9) hx hb hts hin0 tyX0 tyX0_ok nmX0 hown hZ.1 hP hD hS 0 rfl rfl 0 (by decide) hf34 (fun _ h9 => h9) rfl (by decide +kernel) rfl rfl (Nat.le_of_ble_eq_true rfl) dX0_makeRoom_17 (fun H locs hP hD hS => ?_)
  have hP : va_P D vwCl (pH cZ cI q (zN σ + 1, zM σ, va_up (zS σ) (zN σ) b, zC σ, zF σ, zG σ, zP σ, zT σ, zL σ)) H := hP
  have hD : va_D A (pH cZ cI q (zN σ + 1, zM σ, va_up (zS σ) (zN σ) b, zC σ, zF σ, zG σ, zP σ, zT σ, zL σ)) := hD
  refine lv_aload_n hx hb dX0_makeRoom_20 rfl (lv_at hl 0 rfl) ?_
  refine va_get (D := D) (ci := 0) (v := .int (nI (zN σ + 1))) (C := RX0) (T := TX0) (N := 9) hx hb hts hin0 hown hZ.1 hP 0 rfl rfl 0 (by decide) hf34 (fun _ h9 => h9) rfl dX0_makeRoom_21 ?_
  refine lv_iconst (v := nI 1) hx hb dX0_makeRoom_24 (by decide) ?_
  refine rv_sub hx hb (by omega) dX0_makeRoom_25 ?_
  have hP9 : va_P D vwCl (pH cZ cI q (zN σ + 1, zM σ, va_up (zS σ) (zN σ) b, zC σ, zF σ, zG σ, zP σ, zT σ, zL σ)) H := by exact hP
  have hD9 : va_D A (pH cZ cI q (zN σ + 1, zM σ, va_up (zS σ) (zN σ) b, zC σ, zF σ, zG σ, zP σ, zT σ, zL σ)) := by exact hD
  exact W.iret (v := nI ((zN σ + 1) - 1)) hx hb hr (fun t ht hW => ⟨⟨_, (), rfl, rfl, by rw [ht]; exact hP9, hD9⟩, hS.F ht⟩) hS.2.2 dX0_makeRoom_26

set_option maxHeartbeats 4000000 in
set_option maxRecDepth 100000 in
theorem c_X0_makeDoor (l : Launch) (D : va_G) (cZ cI : ClassId) (q : Nat → Nat) (σ : HS) (sz : Nat) (x : Nat) (y : Nat) (pe : Nat) (re : Nat) (hσ : zOk σ) (h14 : zM σ < 14) : Met l yX0_makeDoor wsX0_makeDoor ({ frames := 0, cells := 0, slots := 0, locals := 0 }) (WrP D cZ cI [.ref (q 0), .int (nI x), .int (nI y), .int (nI pe), .int (nI re)] (pH cZ cI q σ) sz) (WrI D (pH cZ cI q (zN σ, zM σ + 1, zS σ, zC σ, va_up (zF σ) (zM σ) x, va_up (zG σ) (zM σ) y, va_up (zP σ) (zM σ) pe, va_up (zT σ) (zM σ) re, zL σ)) (va_A (pH cZ cI q σ) sz) (nI (zM σ + 1 - 1))) 0 0 (va_A (pH cZ cI q σ) sz) := by
  refine Met.ofW (cc := cX0_makeDoor) (maxL := 5) (ret := (some .int)) (by decide) rfl ?_
  intro p e s m args below meth c s₁ B hml hv
  obtain ⟨rfl, hsz, hP, hZ, hD0⟩ := hv
  have hx := B.exec
  have hb := B.bytes
  have hr := B.returns
  have hts := atoms_spec (ws := wsX0_makeDoor) B.pre
  have hown : s.vm.findClass RX0 = some m.cls := findClass_of_methodNamed B.named
  have hlocks := B.notSynchronized
  subst hsz
  have hD := hD0.self (sz := s.heap.size)
  generalize hAe : va_A (pH cZ cI q σ) s.heap.size = A at hD ⊢
  have hA : ∀ q : Nat, s.heap.size ≤ q → A q := fun q h => by rw [← hAe]; exact Or.inr h
  have hS : va_S A s.heap s.heap [] := va_S.rf
  have hP : va_P D vwCl (pH cZ cI q σ) s.heap := hP
  have hl := lv_entry ([.ref (q 0), .int (nI x), .int (nI y), .int (nI pe), .int (nI re)]) (n := 5) (Nat.le_of_ble_eq_true rfl)
  rw [lg_entry_eq]
  generalize (lg_sl ([.ref (q 0), .int (nI x), .int (nI y), .int (nI pe), .int (nI re)]) ++ List.replicate (5 - (lg_sl ([.ref (q 0), .int (nI x), .int (nI y), .int (nI pe), .int (nI re)])).length) Slot.unset).toArray = ls at hl ⊢
  have hl : lv_has ls 5 [(0, .ref (q 0)), (1, .int (nI x)), (2, .int (nI y)), (3, .int (nI pe)), (4, .int (nI re))] := hl
  have hin0 : ∀ w ∈ u_ws RX0 TX0 9, w ∈ wsX0_makeDoor := by decide +kernel
  have hf19 := hts (.fieldLink RX0 19 "DoorChase$House" "firstRoom" "[I") (by decide +kernel)
  have hf22 := hts (.fieldLink RX0 22 "DoorChase$House" "secondRoom" "[I") (by decide +kernel)
  have hf25 := hts (.fieldLink RX0 25 "DoorChase$House" "periods" "[I") (by decide +kernel)
  have hf28 := hts (.fieldLink RX0 28 "DoorChase$House" "rests" "[I") (by decide +kernel)
  have hf38 := hts (.fieldLink RX0 38 "DoorChase$House" "doorCount" "I") (by decide +kernel)
  obtain ⟨hσ1, hσ2, hσ3, hσ4, hσ5, hσ6, hσ7⟩ := id hσ
  refine lv_aload_n hx hb dX0_makeDoor_0 rfl (lv_at hl 0 rfl) ?_
  refine va_get (D := D) (ci := 0) (v := .ref (q 3)) (C := RX0) (T := TX0) (N := 9) hx hb hts hin0 hown hZ.1 hP 0 rfl rfl 4 (by decide) hf19 (fun _ h9 => h9) rfl dX0_makeDoor_1 ?_
  refine lv_aload_n hx hb dX0_makeDoor_4 rfl (lv_at hl 0 rfl) ?_
  refine va_get (D := D) (ci := 0) (v := .int (nI (zM σ))) (C := RX0) (T := TX0) (N := 9) hx hb hts hin0 hown hZ.1 hP 0 rfl rfl 3 (by decide) hf38 (fun _ h9 => h9) rfl dX0_makeDoor_5 ?_
  refine lv_iload_n hx hb dX0_makeDoor_8 rfl (lv_at hl 1 rfl) ?_
  refine rv_iast hx hb hZ.1 hP hD hS 3 1 rfl rfl (r := zM σ) (by omega) (by decide) (encN_up _ _ _) dX0_makeDoor_9 (fun H locs hP hD hS => ?_)
  have hP : va_P D vwCl (pH cZ cI q (zN σ, zM σ, zS σ, zC σ, va_up (zF σ) (zM σ) x, zG σ, zP σ, zT σ, zL σ)) H := hP
  have hD : va_D A (pH cZ cI q (zN σ, zM σ, zS σ, zC σ, va_up (zF σ) (zM σ) x, zG σ, zP σ, zT σ, zL σ)) := hD
  refine lv_aload_n hx hb dX0_makeDoor_10 rfl (lv_at hl 0 rfl) ?_
  refine va_get (D := D) (ci := 0) (v := .ref (q 4)) (C := RX0) (T := TX0) (N := 9) hx hb hts hin0 hown hZ.1 hP 0 rfl rfl 5 (by decide) hf22 (fun _ h9 => h9) rfl dX0_makeDoor_11 ?_
  refine lv_aload_n hx hb dX0_makeDoor_14 rfl (lv_at hl 0 rfl) ?_
  refine va_get (D := D) (ci := 0) (v := .int (nI (zM σ))) (C := RX0) (T := TX0) (N := 9) hx hb hts hin0 hown hZ.1 hP 0 rfl rfl 3 (by decide) hf38 (fun _ h9 => h9) rfl dX0_makeDoor_15 ?_
  refine lv_iload_n hx hb dX0_makeDoor_18 rfl (lv_at hl 2 rfl) ?_
  refine rv_iast hx hb hZ.1 hP hD hS 4 1 rfl rfl (r := zM σ) (by omega) (by decide) (encN_up _ _ _) dX0_makeDoor_19 (fun H locs hP hD hS => ?_)
  have hP : va_P D vwCl (pH cZ cI q (zN σ, zM σ, zS σ, zC σ, va_up (zF σ) (zM σ) x, va_up (zG σ) (zM σ) y, zP σ, zT σ, zL σ)) H := hP
  have hD : va_D A (pH cZ cI q (zN σ, zM σ, zS σ, zC σ, va_up (zF σ) (zM σ) x, va_up (zG σ) (zM σ) y, zP σ, zT σ, zL σ)) := hD
  refine lv_aload_n hx hb dX0_makeDoor_20 rfl (lv_at hl 0 rfl) ?_
  refine va_get (D := D) (ci := 0) (v := .ref (q 5)) (C := RX0) (T := TX0) (N := 9) hx hb hts hin0 hown hZ.1 hP 0 rfl rfl 6 (by decide) hf25 (fun _ h9 => h9) rfl dX0_makeDoor_21 ?_
  refine lv_aload_n hx hb dX0_makeDoor_24 rfl (lv_at hl 0 rfl) ?_
  refine va_get (D := D) (ci := 0) (v := .int (nI (zM σ))) (C := RX0) (T := TX0) (N := 9) hx hb hts hin0 hown hZ.1 hP 0 rfl rfl 3 (by decide) hf38 (fun _ h9 => h9) rfl dX0_makeDoor_25 ?_
  refine lv_iload_n hx hb dX0_makeDoor_28 rfl (lv_at hl 3 rfl) ?_
  refine rv_iast hx hb hZ.1 hP hD hS 5 1 rfl rfl (r := zM σ) (by omega) (by decide) (encN_up _ _ _) dX0_makeDoor_29 (fun H locs hP hD hS => ?_)
  have hP : va_P D vwCl (pH cZ cI q (zN σ, zM σ, zS σ, zC σ, va_up (zF σ) (zM σ) x, va_up (zG σ) (zM σ) y, va_up (zP σ) (zM σ) pe, zT σ, zL σ)) H := hP
  have hD : va_D A (pH cZ cI q (zN σ, zM σ, zS σ, zC σ, va_up (zF σ) (zM σ) x, va_up (zG σ) (zM σ) y, va_up (zP σ) (zM σ) pe, zT σ, zL σ)) := hD
  refine lv_aload_n hx hb dX0_makeDoor_30 rfl (lv_at hl 0 rfl) ?_
  refine va_get (D := D) (ci := 0) (v := .ref (q 6)) (C := RX0) (T := TX0) (N := 9) hx hb hts hin0 hown hZ.1 hP 0 rfl rfl 7 (by decide) hf28 (fun _ h9 => h9) rfl dX0_makeDoor_31 ?_
  refine lv_aload_n hx hb dX0_makeDoor_34 rfl (lv_at hl 0 rfl) ?_
  refine va_get (D := D) (ci := 0) (v := .int (nI (zM σ))) (C := RX0) (T := TX0) (N := 9) hx hb hts hin0 hown hZ.1 hP 0 rfl rfl 3 (by decide) hf38 (fun _ h9 => h9) rfl dX0_makeDoor_35 ?_
  refine lv_iload hx hb dX0_makeDoor_38 (lv_at hl 4 rfl) ?_
  refine rv_iast hx hb hZ.1 hP hD hS 6 1 rfl rfl (r := zM σ) (by omega) (by decide) (encN_up _ _ _) dX0_makeDoor_40 (fun H locs hP hD hS => ?_)
  have hP : va_P D vwCl (pH cZ cI q (zN σ, zM σ, zS σ, zC σ, va_up (zF σ) (zM σ) x, va_up (zG σ) (zM σ) y, va_up (zP σ) (zM σ) pe, va_up (zT σ) (zM σ) re, zL σ)) H := hP
  have hD : va_D A (pH cZ cI q (zN σ, zM σ, zS σ, zC σ, va_up (zF σ) (zM σ) x, va_up (zG σ) (zM σ) y, va_up (zP σ) (zM σ) pe, va_up (zT σ) (zM σ) re, zL σ)) := hD
  refine lv_aload_n hx hb dX0_makeDoor_41 rfl (lv_at hl 0 rfl) ?_
  refine lv_dup hx hb dX0_makeDoor_42 rfl ?_
  refine va_get (D := D) (ci := 0) (v := .int (nI (zM σ))) (C := RX0) (T := TX0) (N := 9) hx hb hts hin0 hown hZ.1 hP 0 rfl rfl 3 (by decide) hf38 (fun _ h9 => h9) rfl dX0_makeDoor_43 ?_
  refine lv_iconst (v := nI 1) hx hb dX0_makeDoor_46 (by decide) ?_
  refine rv_add hx hb dX0_makeDoor_47 ?_
  refine va_put (D := D) (ci := 0) (v := .int (nI (zM σ + 1))) (ty := .int) (C := RX0) (T := TX0) (N := 9) hx hb hts hin0 tyX0 tyX0_ok nmX0 hown hZ.1 hP hD hS 0 rfl rfl 3 (by decide) hf38 (fun _ h9 => h9) rfl (by decide +kernel) rfl rfl (Nat.le_of_ble_eq_true rfl) dX0_makeDoor_48 (fun H locs hP hD hS => ?_)
  have hP : va_P D vwCl (pH cZ cI q (zN σ, zM σ + 1, zS σ, zC σ, va_up (zF σ) (zM σ) x, va_up (zG σ) (zM σ) y, va_up (zP σ) (zM σ) pe, va_up (zT σ) (zM σ) re, zL σ)) H := hP
  have hD : va_D A (pH cZ cI q (zN σ, zM σ + 1, zS σ, zC σ, va_up (zF σ) (zM σ) x, va_up (zG σ) (zM σ) y, va_up (zP σ) (zM σ) pe, va_up (zT σ) (zM σ) re, zL σ)) := hD
  refine lv_aload_n hx hb dX0_makeDoor_51 rfl (lv_at hl 0 rfl) ?_
  refine va_get (D := D) (ci := 0) (v := .int (nI (zM σ + 1))) (C := RX0) (T := TX0) (N := 9) hx hb hts hin0 hown hZ.1 hP 0 rfl rfl 3 (by decide) hf38 (fun _ h9 => h9) rfl dX0_makeDoor_52 ?_
  refine lv_iconst (v := nI 1) hx hb dX0_makeDoor_55 (by decide) ?_
  refine rv_sub hx hb (by omega) dX0_makeDoor_56 ?_
  have hP9 : va_P D vwCl (pH cZ cI q (zN σ, zM σ + 1, zS σ, zC σ, va_up (zF σ) (zM σ) x, va_up (zG σ) (zM σ) y, va_up (zP σ) (zM σ) pe, va_up (zT σ) (zM σ) re, zL σ)) H := by exact hP
  have hD9 : va_D A (pH cZ cI q (zN σ, zM σ + 1, zS σ, zC σ, va_up (zF σ) (zM σ) x, va_up (zG σ) (zM σ) y, va_up (zP σ) (zM σ) pe, va_up (zT σ) (zM σ) re, zL σ)) := by exact hD
  exact W.iret (v := nI ((zM σ + 1) - 1)) hx hb hr (fun t ht hW => ⟨⟨_, (), rfl, rfl, by rw [ht]; exact hP9, hD9⟩, hS.F ht⟩) hS.2.2 dX0_makeDoor_57

set_option maxHeartbeats 4000000 in
set_option maxRecDepth 100000 in
theorem c_X2_addRoom (l : Launch) (D : va_G) (cZ cI : ClassId) (a : Nat) (o : Nat → Nat) (o' : Nat → Nat) (q : Nat → Nat) (κ : CS) (ω : OS) (ω' : OS) (σ : HS) (sz : Nat) (b : Bool) (hσ : zOk σ) (h8 : zN σ < 8) : Met l yX2_addRoom wsX2_addRoom ({ frames := 4, cells := 0, slots := 0, locals := 98 }) (WrP D cZ cI [.ref a, .int (bI b)] (pD cZ cI a o o' q κ ω ω' σ) sz) (WrI D (pD cZ cI a o o' q κ (lookW (zN σ + 1, zM σ, va_up (zS σ) (zN σ) b, zC σ, zF σ, zG σ, zP σ, zT σ, zL σ) none ω, (lookR (zN σ + 1, zM σ, va_up (zS σ) (zN σ) b, zC σ, zF σ, zG σ, zP σ, zT σ, zL σ) none ω).1, (lookR (zN σ + 1, zM σ, va_up (zS σ) (zN σ) b, zC σ, zF σ, zG σ, zP σ, zT σ, zL σ) none ω).2.1, (lookR (zN σ + 1, zM σ, va_up (zS σ) (zN σ) b, zC σ, zF σ, zG σ, zP σ, zT σ, zL σ) none ω).2.2.1) ω' (zN σ + 1, zM σ, va_up (zS σ) (zN σ) b, zC σ, zF σ, zG σ, zP σ, zT σ, zL σ)) (va_A (pD cZ cI a o o' q κ ω ω' σ) sz) (nI (zN σ + 1 - 1))) 0 0 (va_A (pD cZ cI a o o' q κ ω ω' σ) sz) := by
  refine Met.ofW (cc := cX2_addRoom) (maxL := 3) (ret := (some .int)) (by decide) rfl ?_
  intro p e s m args below meth c s₁ B hml hv
  obtain ⟨rfl, hsz, hP, hZ, hD0⟩ := hv
  have hx := B.exec
  have hb := B.bytes
  have hr := B.returns
  have hts := atoms_spec (ws := wsX2_addRoom) B.pre
  have hown : s.vm.findClass RX2 = some m.cls := findClass_of_methodNamed B.named
  have hlocks := B.notSynchronized
  subst hsz
  have hD := hD0.self (sz := s.heap.size)
  generalize hAe : va_A (pD cZ cI a o o' q κ ω ω' σ) s.heap.size = A at hD ⊢
  have hA : ∀ q : Nat, s.heap.size ≤ q → A q := fun q h => by rw [← hAe]; exact Or.inr h
  have hS : va_S A s.heap s.heap [] := va_S.rf
  have hP : va_P D vwCl (pD cZ cI a o o' q κ ω ω' σ) s.heap := hP
  have hl := lv_entry ([.ref a, .int (bI b)]) (n := 3) (Nat.le_of_ble_eq_true rfl)
  rw [lg_entry_eq]
  generalize (lg_sl ([.ref a, .int (bI b)]) ++ List.replicate (3 - (lg_sl ([.ref a, .int (bI b)])).length) Slot.unset).toArray = ls at hl ⊢
  have hl : lv_has ls 3 [(0, .ref a), (1, .int (bI b))] := hl
  have hin2 : ∀ w ∈ u_ws RX2 TX2 9, w ∈ wsX2_addRoom := by decide +kernel
  have hin0 : ∀ w ∈ u_ws RX0 TX0 9, w ∈ wsX2_addRoom := by decide +kernel
  have hf10 := hts (.fieldLink RX2 10 "DoorChase" "house" "LDoorChase$House;") (by decide +kernel)
  have hf19 := hts (.fieldLink RX2 19 "DoorChase" "outlook" "LDoorChase$Outlook;") (by decide +kernel)
  have hf33 := hts (.fieldLink RX2 33 "DoorChase$House" "roomCount" "I") (by decide +kernel)
  obtain ⟨hσ1, hσ2, hσ3, hσ4, hσ5, hσ6, hσ7⟩ := id hσ
  refine lv_aload_n hx hb dX2_addRoom_0 rfl (lv_at hl 0 rfl) ?_
  refine va_get (D := D) (ci := 2) (v := .ref (q 0)) (C := RX2) (T := TX2) (N := 9) hx hb hts hin2 hown hZ.1 hP 0 rfl rfl 0 (by decide) hf10 (fun _ h9 => h9) rfl dX2_addRoom_1 ?_
  refine va_get (D := D) (ci := 0) (v := .int (nI (zN σ))) (C := RX0) (T := TX0) (N := 9) hx hb hts hin0 hown hZ.1 hP 11 rfl rfl 0 (by decide) hf33 (fun _ h9 => h9) rfl dX2_addRoom_4 ?_
  refine lv_bipush (v := nI 8) hx hb dX2_addRoom_7 (by decide) ?_
  refine rv_lt (tgt := 22) hx hb (by omega) (by omega) dX2_addRoom_9 (by decide) (fun c9_1 => ?_) (fun c9_1 => ?_)
  · skip
    refine lv_aload_n hx hb dX2_addRoom_22 rfl (lv_at hl 0 rfl) ?_
    refine va_get (D := D) (ci := 2) (v := .ref (q 0)) (C := RX2) (T := TX2) (N := 9) hx hb hts hin2 hown hZ.1 hP 0 rfl rfl 0 (by decide) hf10 (fun _ h9 => h9) rfl dX2_addRoom_23 ?_
    refine lv_iload_n hx hb dX2_addRoom_26 rfl (lv_at hl 1 rfl) ?_
    have hPc := hP.sub (ws' := pH cZ cI q σ) [11, 12, 13, 14, 15, 16, 17, 18] rfl
    have hDc := hD.sub (ws' := pH cZ cI q σ) [11, 12, 13, 14, 15, 16, 17, 18] (by decide) rfl
    have hFc := va_free (wc := pH cZ cI q σ) hD hS hA [11, 12, 13, 14, 15, 16, 17, 18] rfl
    refine va_calli (va_runV (As := [.int (bI b)]) (rest := []) ⟨hx, hb, hml, hown, hts⟩ (c_X0_makeRoom l D cZ cI q σ s.heap.size b (by first | assumption | omega) (by first | assumption | omega)) (cwV 1 hts gX2_addRoom_X0_makeRoom rfl rfl rfl (by decide +kernel) ⟨Nat.le_of_ble_eq_true rfl, Nat.le_of_ble_eq_true rfl⟩) ⟨WrP_blind, va_recv hZ.1 hP (ci := 0) (q0 := 11) rfl rfl, WrP_start hPc hDc hZ⟩ rfl rfl hl.1 rfl (lv_room (Nat.le_of_ble_eq_true rfl)) dX2_addRoom_27 ⟨Nat.le_of_ble_eq_true rfl, Nat.le_of_ble_eq_true rfl⟩) hS (fun q _ h => hFc q h) hFc (fun r9 u t H1 locs ht hvm hw hB hz1 hk1 hS => ?_)
    obtain ⟨hP1, hD1⟩ := hB
    rw [ht] at hP1
    obtain ⟨hP, hD⟩ := va_join (wr := ([0, 1, 2, 3, 4, 5, 6, 7, 8, 9, 10] : List Nat).filterMap (fun i => (pD cZ cI a o o' q κ ω ω' σ)[i]?)) (w1 := pH cZ cI q ((zN σ) + 1, zM σ, va_up ((zS σ)) ((zN σ)) b, zC σ, zF σ, zG σ, zP σ, zT σ, zL σ)) hP hD [11, 12, 13, 14, 15, 16, 17, 18] [0, 1, 2, 3, 4, 5, 6, 7, 8, 9, 10] rfl rfl (by decide) (by decide) hk1 hFc hP1 hD1
    replace hP := hP.sub (ws' := pD cZ cI a o o' q κ ω ω' ((zN σ) + 1, zM σ, va_up ((zS σ)) ((zN σ)) b, zC σ, zF σ, zG σ, zP σ, zT σ, zL σ)) [0, 1, 2, 3, 4, 5, 6, 7, 8, 9, 10, 11, 12, 13, 14, 15, 16, 17, 18] rfl
    replace hD := hD.sub (ws' := pD cZ cI a o o' q κ ω ω' ((zN σ) + 1, zM σ, va_up ((zS σ)) ((zN σ)) b, zC σ, zF σ, zG σ, zP σ, zT σ, zL σ)) [0, 1, 2, 3, 4, 5, 6, 7, 8, 9, 10, 11, 12, 13, 14, 15, 16, 17, 18] (by decide) rfl
    generalize H1 = H at hP hS ⊢
    have hP : va_P D vwCl (pD cZ cI a o o' q κ ω ω' ((zN σ) + 1, zM σ, va_up ((zS σ)) ((zN σ)) b, zC σ, zF σ, zG σ, zP σ, zT σ, zL σ)) H := hP
    have hD : va_D A (pD cZ cI a o o' q κ ω ω' ((zN σ) + 1, zM σ, va_up ((zS σ)) ((zN σ)) b, zC σ, zF σ, zG σ, zP σ, zT σ, zL σ)) := hD
    subst hw
    refine rv_top (show _ = nI ((zN σ) + 1 - 1) from rfl) ?_
    refine lv_istore_n (lv' := [(2, .int (nI ((zN σ) + 1 - 1))), (0, .ref a), (1, .int (bI b))]) hx hb dX2_addRoom_30 rfl hl (by decide) rfl (fun ls hl => ?_)
    refine lv_aload_n hx hb dX2_addRoom_31 rfl (lv_at hl 1 rfl) ?_
    refine va_get (D := D) (ci := 2) (v := .ref (o 0)) (C := RX2) (T := TX2) (N := 9) hx hb hts hin2 hown hZ.1 hP 0 rfl rfl 1 (by decide) hf19 (fun _ h9 => h9) rfl dX2_addRoom_32 ?_
    refine lv_aload_n hx hb dX2_addRoom_35 rfl (lv_at hl 1 rfl) ?_
    refine va_get (D := D) (ci := 2) (v := .ref (q 0)) (C := RX2) (T := TX2) (N := 9) hx hb hts hin2 hown hZ.1 hP 0 rfl rfl 0 (by decide) hf10 (fun _ h9 => h9) rfl dX2_addRoom_36 ?_
    refine lv_iconst (v := (-1)) hx hb dX2_addRoom_39 (by decide) ?_
    refine rv_top (show (-1) = iO none from rfl) ?_
    have hPc := hP.sub (ws' := pO cZ cI o q ω ((zN σ) + 1, zM σ, va_up ((zS σ)) ((zN σ)) b, zC σ, zF σ, zG σ, zP σ, zT σ, zL σ)) [1, 2, 3, 4, 5, 11, 12, 13, 14, 15, 16, 17, 18] rfl
    have hDc := hD.sub (ws' := pO cZ cI o q ω ((zN σ) + 1, zM σ, va_up ((zS σ)) ((zN σ)) b, zC σ, zF σ, zG σ, zP σ, zT σ, zL σ)) [1, 2, 3, 4, 5, 11, 12, 13, 14, 15, 16, 17, 18] (by decide) rfl
    have hFc := va_free (wc := pO cZ cI o q ω ((zN σ) + 1, zM σ, va_up ((zS σ)) ((zN σ)) b, zC σ, zF σ, zG σ, zP σ, zT σ, zL σ)) hD hS hA [1, 2, 3, 4, 5, 11, 12, 13, 14, 15, 16, 17, 18] rfl
    refine va_callv (va_runV (As := [.ref (q 0), .int (iO none)]) (rest := []) ⟨hx, hb, hml, hown, hts⟩ (c_X1_lookOut l D cZ cI o q ω ((zN σ) + 1, zM σ, va_up ((zS σ)) ((zN σ)) b, zC σ, zF σ, zG σ, zP σ, zT σ, zL σ) H.size none (zOk_room hσ (by omega) b) (fun n h => by cases h)) (cwV 2 hts gX2_addRoom_X1_lookOut rfl rfl rfl (by decide +kernel) ⟨Nat.le_of_ble_eq_true rfl, Nat.le_of_ble_eq_true rfl⟩) ⟨WrP_blind, va_recv hZ.1 hP (ci := 1) (q0 := 1) rfl rfl, WrP_start hPc hDc hZ⟩ rfl rfl hl.1 rfl (lv_room (Nat.le_of_ble_eq_true rfl)) dX2_addRoom_40 ⟨Nat.le_of_ble_eq_true rfl, Nat.le_of_ble_eq_true rfl⟩) hS (fun q _ h => hFc q h) hFc (fun u t H1 locs ht hvm hw hB hz1 hk1 hS => ?_)
    obtain ⟨hP1, hD1⟩ := hB
    rw [ht] at hP1
    obtain ⟨hP, hD⟩ := va_join (wr := ([0, 6, 7, 8, 9, 10] : List Nat).filterMap (fun i => (pD cZ cI a o o' q κ ω ω' ((zN σ) + 1, zM σ, va_up ((zS σ)) ((zN σ)) b, zC σ, zF σ, zG σ, zP σ, zT σ, zL σ))[i]?)) (w1 := pO cZ cI o q (lookW ((zN σ) + 1, zM σ, va_up ((zS σ)) ((zN σ)) b, zC σ, zF σ, zG σ, zP σ, zT σ, zL σ) none ω, (lookR ((zN σ) + 1, zM σ, va_up ((zS σ)) ((zN σ)) b, zC σ, zF σ, zG σ, zP σ, zT σ, zL σ) none ω).1, (lookR ((zN σ) + 1, zM σ, va_up ((zS σ)) ((zN σ)) b, zC σ, zF σ, zG σ, zP σ, zT σ, zL σ) none ω).2.1, (lookR ((zN σ) + 1, zM σ, va_up ((zS σ)) ((zN σ)) b, zC σ, zF σ, zG σ, zP σ, zT σ, zL σ) none ω).2.2.1) ((zN σ) + 1, zM σ, va_up ((zS σ)) ((zN σ)) b, zC σ, zF σ, zG σ, zP σ, zT σ, zL σ)) hP hD [1, 2, 3, 4, 5, 11, 12, 13, 14, 15, 16, 17, 18] [0, 6, 7, 8, 9, 10] rfl rfl (by decide) (by decide) hk1 hFc hP1 hD1
    replace hP := hP.sub (ws' := pD cZ cI a o o' q κ (lookW ((zN σ) + 1, zM σ, va_up ((zS σ)) ((zN σ)) b, zC σ, zF σ, zG σ, zP σ, zT σ, zL σ) none ω, (lookR ((zN σ) + 1, zM σ, va_up ((zS σ)) ((zN σ)) b, zC σ, zF σ, zG σ, zP σ, zT σ, zL σ) none ω).1, (lookR ((zN σ) + 1, zM σ, va_up ((zS σ)) ((zN σ)) b, zC σ, zF σ, zG σ, zP σ, zT σ, zL σ) none ω).2.1, (lookR ((zN σ) + 1, zM σ, va_up ((zS σ)) ((zN σ)) b, zC σ, zF σ, zG σ, zP σ, zT σ, zL σ) none ω).2.2.1) ω' ((zN σ) + 1, zM σ, va_up ((zS σ)) ((zN σ)) b, zC σ, zF σ, zG σ, zP σ, zT σ, zL σ)) [0, 6, 7, 8, 9, 10, 1, 2, 3, 4, 5, 11, 12, 13, 14, 15, 16, 17, 18] rfl
    replace hD := hD.sub (ws' := pD cZ cI a o o' q κ (lookW ((zN σ) + 1, zM σ, va_up ((zS σ)) ((zN σ)) b, zC σ, zF σ, zG σ, zP σ, zT σ, zL σ) none ω, (lookR ((zN σ) + 1, zM σ, va_up ((zS σ)) ((zN σ)) b, zC σ, zF σ, zG σ, zP σ, zT σ, zL σ) none ω).1, (lookR ((zN σ) + 1, zM σ, va_up ((zS σ)) ((zN σ)) b, zC σ, zF σ, zG σ, zP σ, zT σ, zL σ) none ω).2.1, (lookR ((zN σ) + 1, zM σ, va_up ((zS σ)) ((zN σ)) b, zC σ, zF σ, zG σ, zP σ, zT σ, zL σ) none ω).2.2.1) ω' ((zN σ) + 1, zM σ, va_up ((zS σ)) ((zN σ)) b, zC σ, zF σ, zG σ, zP σ, zT σ, zL σ)) [0, 6, 7, 8, 9, 10, 1, 2, 3, 4, 5, 11, 12, 13, 14, 15, 16, 17, 18] (by decide) rfl
    generalize H1 = H at hP hS ⊢
    have hP : va_P D vwCl (pD cZ cI a o o' q κ (lookW ((zN σ) + 1, zM σ, va_up ((zS σ)) ((zN σ)) b, zC σ, zF σ, zG σ, zP σ, zT σ, zL σ) none ω, (lookR ((zN σ) + 1, zM σ, va_up ((zS σ)) ((zN σ)) b, zC σ, zF σ, zG σ, zP σ, zT σ, zL σ) none ω).1, (lookR ((zN σ) + 1, zM σ, va_up ((zS σ)) ((zN σ)) b, zC σ, zF σ, zG σ, zP σ, zT σ, zL σ) none ω).2.1, (lookR ((zN σ) + 1, zM σ, va_up ((zS σ)) ((zN σ)) b, zC σ, zF σ, zG σ, zP σ, zT σ, zL σ) none ω).2.2.1) ω' ((zN σ) + 1, zM σ, va_up ((zS σ)) ((zN σ)) b, zC σ, zF σ, zG σ, zP σ, zT σ, zL σ)) H := hP
    have hD : va_D A (pD cZ cI a o o' q κ (lookW ((zN σ) + 1, zM σ, va_up ((zS σ)) ((zN σ)) b, zC σ, zF σ, zG σ, zP σ, zT σ, zL σ) none ω, (lookR ((zN σ) + 1, zM σ, va_up ((zS σ)) ((zN σ)) b, zC σ, zF σ, zG σ, zP σ, zT σ, zL σ) none ω).1, (lookR ((zN σ) + 1, zM σ, va_up ((zS σ)) ((zN σ)) b, zC σ, zF σ, zG σ, zP σ, zT σ, zL σ) none ω).2.1, (lookR ((zN σ) + 1, zM σ, va_up ((zS σ)) ((zN σ)) b, zC σ, zF σ, zG σ, zP σ, zT σ, zL σ) none ω).2.2.1) ω' ((zN σ) + 1, zM σ, va_up ((zS σ)) ((zN σ)) b, zC σ, zF σ, zG σ, zP σ, zT σ, zL σ)) := hD
    refine lv_iload_n hx hb dX2_addRoom_43 rfl (lv_at hl 0 rfl) ?_
    have hP9 : va_P D vwCl (pD cZ cI a o o' q κ (lookW (zN σ + 1, zM σ, va_up (zS σ) (zN σ) b, zC σ, zF σ, zG σ, zP σ, zT σ, zL σ) none ω, (lookR (zN σ + 1, zM σ, va_up (zS σ) (zN σ) b, zC σ, zF σ, zG σ, zP σ, zT σ, zL σ) none ω).1, (lookR (zN σ + 1, zM σ, va_up (zS σ) (zN σ) b, zC σ, zF σ, zG σ, zP σ, zT σ, zL σ) none ω).2.1, (lookR (zN σ + 1, zM σ, va_up (zS σ) (zN σ) b, zC σ, zF σ, zG σ, zP σ, zT σ, zL σ) none ω).2.2.1) ω' (zN σ + 1, zM σ, va_up (zS σ) (zN σ) b, zC σ, zF σ, zG σ, zP σ, zT σ, zL σ)) H := by exact hP
    have hD9 : va_D A (pD cZ cI a o o' q κ (lookW (zN σ + 1, zM σ, va_up (zS σ) (zN σ) b, zC σ, zF σ, zG σ, zP σ, zT σ, zL σ) none ω, (lookR (zN σ + 1, zM σ, va_up (zS σ) (zN σ) b, zC σ, zF σ, zG σ, zP σ, zT σ, zL σ) none ω).1, (lookR (zN σ + 1, zM σ, va_up (zS σ) (zN σ) b, zC σ, zF σ, zG σ, zP σ, zT σ, zL σ) none ω).2.1, (lookR (zN σ + 1, zM σ, va_up (zS σ) (zN σ) b, zC σ, zF σ, zG σ, zP σ, zT σ, zL σ) none ω).2.2.1) ω' (zN σ + 1, zM σ, va_up (zS σ) (zN σ) b, zC σ, zF σ, zG σ, zP σ, zT σ, zL σ)) := by exact hD
    exact W.iret (v := nI ((zN σ) + 1 - 1)) hx hb hr (fun t ht hW => ⟨⟨_, (), rfl, rfl, by rw [ht]; exact hP9, hD9⟩, hS.F ht⟩) hS.2.2 dX2_addRoom_44
  · skip
    exfalso; omega

set_option maxHeartbeats 4000000 in
set_option maxRecDepth 100000 in
theorem c_X2_addDoor (l : Launch) (D : va_G) (cZ cI : ClassId) (a : Nat) (o : Nat → Nat) (o' : Nat → Nat) (q : Nat → Nat) (κ : CS) (ω : OS) (ω' : OS) (σ : HS) (sz : Nat) (x : Nat) (y : Nat) (pe : Nat) (re : Nat) (hσ : zOk σ) (ha : x < zN σ) (hb8 : y < zN σ) (hne : ¬ x = y) (hp1 : 1 ≤ pe) (hp4 : pe ≤ 4) (hre : re < pe) (h14 : zM σ < 14) (hj : hJoin σ x y = none) : Met l yX2_addDoor wsX2_addDoor ({ frames := 4, cells := 0, slots := 0, locals := 98 }) (WrP D cZ cI [.ref a, .int (nI x), .int (nI y), .int (nI pe), .int (nI re)] (pD cZ cI a o o' q κ ω ω' σ) sz) (WrI D (pD cZ cI a o o' q κ (lookW (zN σ, zM σ + 1, zS σ, zC σ, va_up (zF σ) (zM σ) x, va_up (zG σ) (zM σ) y, va_up (zP σ) (zM σ) pe, va_up (zT σ) (zM σ) re, zL σ) none ω, (lookR (zN σ, zM σ + 1, zS σ, zC σ, va_up (zF σ) (zM σ) x, va_up (zG σ) (zM σ) y, va_up (zP σ) (zM σ) pe, va_up (zT σ) (zM σ) re, zL σ) none ω).1, (lookR (zN σ, zM σ + 1, zS σ, zC σ, va_up (zF σ) (zM σ) x, va_up (zG σ) (zM σ) y, va_up (zP σ) (zM σ) pe, va_up (zT σ) (zM σ) re, zL σ) none ω).2.1, (lookR (zN σ, zM σ + 1, zS σ, zC σ, va_up (zF σ) (zM σ) x, va_up (zG σ) (zM σ) y, va_up (zP σ) (zM σ) pe, va_up (zT σ) (zM σ) re, zL σ) none ω).2.2.1) ω' (zN σ, zM σ + 1, zS σ, zC σ, va_up (zF σ) (zM σ) x, va_up (zG σ) (zM σ) y, va_up (zP σ) (zM σ) pe, va_up (zT σ) (zM σ) re, zL σ)) (va_A (pD cZ cI a o o' q κ ω ω' σ) sz) (nI (zM σ + 1 - 1))) 0 0 (va_A (pD cZ cI a o o' q κ ω ω' σ) sz) := by
  refine Met.ofW (cc := cX2_addDoor) (maxL := 6) (ret := (some .int)) (by decide) rfl ?_
  intro p e s m args below meth c s₁ B hml hv
  obtain ⟨rfl, hsz, hP, hZ, hD0⟩ := hv
  have hx := B.exec
  have hb := B.bytes
  have hr := B.returns
  have hts := atoms_spec (ws := wsX2_addDoor) B.pre
  have hown : s.vm.findClass RX2 = some m.cls := findClass_of_methodNamed B.named
  have hlocks := B.notSynchronized
  subst hsz
  have hD := hD0.self (sz := s.heap.size)
  generalize hAe : va_A (pD cZ cI a o o' q κ ω ω' σ) s.heap.size = A at hD ⊢
  have hA : ∀ q : Nat, s.heap.size ≤ q → A q := fun q h => by rw [← hAe]; exact Or.inr h
  have hS : va_S A s.heap s.heap [] := va_S.rf
  have hP : va_P D vwCl (pD cZ cI a o o' q κ ω ω' σ) s.heap := hP
  have hl := lv_entry ([.ref a, .int (nI x), .int (nI y), .int (nI pe), .int (nI re)]) (n := 6) (Nat.le_of_ble_eq_true rfl)
  rw [lg_entry_eq]
  generalize (lg_sl ([.ref a, .int (nI x), .int (nI y), .int (nI pe), .int (nI re)]) ++ List.replicate (6 - (lg_sl ([.ref a, .int (nI x), .int (nI y), .int (nI pe), .int (nI re)])).length) Slot.unset).toArray = ls at hl ⊢
  have hl : lv_has ls 6 [(0, .ref a), (1, .int (nI x)), (2, .int (nI y)), (3, .int (nI pe)), (4, .int (nI re))] := hl
  have hin2 : ∀ w ∈ u_ws RX2 TX2 9, w ∈ wsX2_addDoor := by decide +kernel
  have hin0 : ∀ w ∈ u_ws RX0 TX0 9, w ∈ wsX2_addDoor := by decide +kernel
  have hf10 := hts (.fieldLink RX2 10 "DoorChase" "house" "LDoorChase$House;") (by decide +kernel)
  have hf19 := hts (.fieldLink RX2 19 "DoorChase" "outlook" "LDoorChase$Outlook;") (by decide +kernel)
  have hf62 := hts (.fieldLink RX2 62 "DoorChase$House" "doorCount" "I") (by decide +kernel)
  obtain ⟨hσ1, hσ2, hσ3, hσ4, hσ5, hσ6, hσ7⟩ := id hσ
  refine lv_aload_n hx hb dX2_addDoor_0 rfl (lv_at hl 0 rfl) ?_
  refine lv_iload_n hx hb dX2_addDoor_1 rfl (lv_at hl 1 rfl) ?_
  refine va_csv (va_runV (As := [.int (nI x)]) (rest := []) ⟨hx, hb, hml, hown, hts⟩ (c_X2_requireRoom l D cZ cI a o o' q κ ω ω' σ  x (by first | assumption | omega) (by first | assumption | omega)) (cwV 1 hts gX2_addDoor_X2_requireRoom rfl rfl rfl (by decide +kernel) ⟨Nat.le_of_ble_eq_true rfl, Nat.le_of_ble_eq_true rfl⟩) ⟨RdP_blind, va_recv hZ.1 hP (ci := 2) (q0 := 0) rfl rfl, RdP_start (hP.sub (ws' := pD cZ cI a o o' q κ ω ω' σ) [0, 1, 2, 3, 4, 5, 6, 7, 8, 9, 10, 11, 12, 13, 14, 15, 16, 17, 18] rfl) hZ⟩ rfl rfl hl.1 rfl (lv_room (Nat.le_of_ble_eq_true rfl)) dX2_addDoor_2 ⟨Nat.le_of_ble_eq_true rfl, Nat.le_of_ble_eq_true rfl⟩).run (fun _ => ?_)
  refine lv_aload_n hx hb dX2_addDoor_5 rfl (lv_at hl 0 rfl) ?_
  refine lv_iload_n hx hb dX2_addDoor_6 rfl (lv_at hl 2 rfl) ?_
  refine va_csv (va_runV (As := [.int (nI y)]) (rest := []) ⟨hx, hb, hml, hown, hts⟩ (c_X2_requireRoom l D cZ cI a o o' q κ ω ω' σ  y (by first | assumption | omega) (by first | assumption | omega)) (cwV 1 hts gX2_addDoor_X2_requireRoom rfl rfl rfl (by decide +kernel) ⟨Nat.le_of_ble_eq_true rfl, Nat.le_of_ble_eq_true rfl⟩) ⟨RdP_blind, va_recv hZ.1 hP (ci := 2) (q0 := 0) rfl rfl, RdP_start (hP.sub (ws' := pD cZ cI a o o' q κ ω ω' σ) [0, 1, 2, 3, 4, 5, 6, 7, 8, 9, 10, 11, 12, 13, 14, 15, 16, 17, 18] rfl) hZ⟩ rfl rfl hl.1 rfl (lv_room (Nat.le_of_ble_eq_true rfl)) dX2_addDoor_7 ⟨Nat.le_of_ble_eq_true rfl, Nat.le_of_ble_eq_true rfl⟩).run (fun _ => ?_)
  refine lv_iload_n hx hb dX2_addDoor_10 rfl (lv_at hl 1 rfl) ?_
  refine lv_iload_n hx hb dX2_addDoor_11 rfl (lv_at hl 2 rfl) ?_
  refine rv_ne (tgt := 25) hx hb (by omega) (by omega) dX2_addDoor_12 (by decide) (fun c12_5 => ?_) (fun c12_5 => ?_)
  · skip
    refine lv_iload_n hx hb dX2_addDoor_25 rfl (lv_at hl 3 rfl) ?_
    refine lv_iconst (v := nI 1) hx hb dX2_addDoor_26 (by decide) ?_
    refine rv_lt (tgt := 46) hx hb (by omega) (by omega) dX2_addDoor_27 (by decide) (fun c27_6 => ?_) (fun c27_6 => ?_)
    · skip
      exfalso; omega
    · skip
      refine lv_iload_n hx hb dX2_addDoor_30 rfl (lv_at hl 3 rfl) ?_
      refine lv_iconst (v := nI 4) hx hb dX2_addDoor_31 (by decide) ?_
      refine rv_gt (tgt := 46) hx hb (by omega) (by omega) dX2_addDoor_32 (by decide) (fun c32_7 => ?_) (fun c32_7 => ?_)
      · skip
        exfalso; omega
      · skip
        refine lv_iload hx hb dX2_addDoor_35 (lv_at hl 4 rfl) ?_
        refine rv_ifltN (tgt := 46) hx hb (by omega) dX2_addDoor_37 (by decide) ?_
        refine lv_iload hx hb dX2_addDoor_40 (lv_at hl 4 rfl) ?_
        refine lv_iload_n hx hb dX2_addDoor_42 rfl (lv_at hl 3 rfl) ?_
        refine rv_lt (tgt := 56) hx hb (by omega) (by omega) dX2_addDoor_43 (by decide) (fun c43_9 => ?_) (fun c43_9 => ?_)
        · skip
          refine lv_aload_n hx hb dX2_addDoor_56 rfl (lv_at hl 0 rfl) ?_
          refine va_get (D := D) (ci := 2) (v := .ref (q 0)) (C := RX2) (T := TX2) (N := 9) hx hb hts hin2 hown hZ.1 hP 0 rfl rfl 0 (by decide) hf10 (fun _ h9 => h9) rfl dX2_addDoor_57 ?_
          refine va_get (D := D) (ci := 0) (v := .int (nI (zM σ))) (C := RX0) (T := TX0) (N := 9) hx hb hts hin0 hown hZ.1 hP 11 rfl rfl 3 (by decide) hf62 (fun _ h9 => h9) rfl dX2_addDoor_60 ?_
          refine lv_bipush (v := nI 14) hx hb dX2_addDoor_63 (by decide) ?_
          refine rv_lt (tgt := 78) hx hb (by omega) (by omega) dX2_addDoor_65 (by decide) (fun c65_10 => ?_) (fun c65_10 => ?_)
          · skip
            refine lv_aload_n hx hb dX2_addDoor_78 rfl (lv_at hl 0 rfl) ?_
            refine va_get (D := D) (ci := 2) (v := .ref (q 0)) (C := RX2) (T := TX2) (N := 9) hx hb hts hin2 hown hZ.1 hP 0 rfl rfl 0 (by decide) hf10 (fun _ h9 => h9) rfl dX2_addDoor_79 ?_
            refine lv_iload_n hx hb dX2_addDoor_82 rfl (lv_at hl 1 rfl) ?_
            refine lv_iload_n hx hb dX2_addDoor_83 rfl (lv_at hl 2 rfl) ?_
            refine vp_callSi (va_runV (As := [.int (nI x), .int (nI y)]) (rest := []) ⟨hx, hb, hml, hown, hts⟩ (c_X0_joining l D cZ cI q σ  x y (by first | assumption | omega) (by first | assumption | omega) (by first | assumption | omega)) (cwV 2 hts gX2_addDoor_X0_joining rfl rfl rfl (by decide +kernel) ⟨Nat.le_of_ble_eq_true rfl, Nat.le_of_ble_eq_true rfl⟩) ⟨RdP_blind, va_recv hZ.1 hP (ci := 0) (q0 := 11) rfl rfl, RdP_start (hP.sub (ws' := pH cZ cI q σ) [11, 12, 13, 14, 15, 16, 17, 18] rfl) hZ⟩ rfl rfl hl.1 rfl (lv_room (Nat.le_of_ble_eq_true rfl)) dX2_addDoor_84 ⟨Nat.le_of_ble_eq_true rfl, Nat.le_of_ble_eq_true rfl⟩).run (fun r_11 hr_12 => ?_)
            subst hr_12
            refine rv_top (show _ = iO (hJoin σ x y) from rfl) ?_
            refine lv_iconst (v := (-1)) hx hb dX2_addDoor_87 (by decide) ?_
            refine rv_eqO (tgt := 101) hx hb (hJoin_b hσ _ _) dX2_addDoor_88 (by decide) (fun c88_13 => ?_) (fun c88_13 => ?_)
            · skip
              refine lv_aload_n hx hb dX2_addDoor_101 rfl (lv_at hl 0 rfl) ?_
              refine va_get (D := D) (ci := 2) (v := .ref (q 0)) (C := RX2) (T := TX2) (N := 9) hx hb hts hin2 hown hZ.1 hP 0 rfl rfl 0 (by decide) hf10 (fun _ h9 => h9) rfl dX2_addDoor_102 ?_
              refine lv_iload_n hx hb dX2_addDoor_105 rfl (lv_at hl 1 rfl) ?_
              refine lv_iload_n hx hb dX2_addDoor_106 rfl (lv_at hl 2 rfl) ?_
              refine lv_iload_n hx hb dX2_addDoor_107 rfl (lv_at hl 3 rfl) ?_
              refine lv_iload hx hb dX2_addDoor_108 (lv_at hl 4 rfl) ?_
              have hPc := hP.sub (ws' := pH cZ cI q σ) [11, 12, 13, 14, 15, 16, 17, 18] rfl
              have hDc := hD.sub (ws' := pH cZ cI q σ) [11, 12, 13, 14, 15, 16, 17, 18] (by decide) rfl
              have hFc := va_free (wc := pH cZ cI q σ) hD hS hA [11, 12, 13, 14, 15, 16, 17, 18] rfl
              refine va_calli (va_runV (As := [.int (nI x), .int (nI y), .int (nI pe), .int (nI re)]) (rest := []) ⟨hx, hb, hml, hown, hts⟩ (c_X0_makeDoor l D cZ cI q σ s.heap.size x y pe re (by first | assumption | omega) (by first | assumption | omega)) (cwV 4 hts gX2_addDoor_X0_makeDoor rfl rfl rfl (by decide +kernel) ⟨Nat.le_of_ble_eq_true rfl, Nat.le_of_ble_eq_true rfl⟩) ⟨WrP_blind, va_recv hZ.1 hP (ci := 0) (q0 := 11) rfl rfl, WrP_start hPc hDc hZ⟩ rfl rfl hl.1 rfl (lv_room (Nat.le_of_ble_eq_true rfl)) dX2_addDoor_110 ⟨Nat.le_of_ble_eq_true rfl, Nat.le_of_ble_eq_true rfl⟩) hS (fun q _ h => hFc q h) hFc (fun r9 u t H1 locs ht hvm hw hB hz1 hk1 hS => ?_)
              obtain ⟨hP1, hD1⟩ := hB
              rw [ht] at hP1
              obtain ⟨hP, hD⟩ := va_join (wr := ([0, 1, 2, 3, 4, 5, 6, 7, 8, 9, 10] : List Nat).filterMap (fun i => (pD cZ cI a o o' q κ ω ω' σ)[i]?)) (w1 := pH cZ cI q (zN σ, (zM σ) + 1, zS σ, zC σ, va_up ((zF σ)) ((zM σ)) x, va_up ((zG σ)) ((zM σ)) y, va_up ((zP σ)) ((zM σ)) pe, va_up ((zT σ)) ((zM σ)) re, zL σ)) hP hD [11, 12, 13, 14, 15, 16, 17, 18] [0, 1, 2, 3, 4, 5, 6, 7, 8, 9, 10] rfl rfl (by decide) (by decide) hk1 hFc hP1 hD1
              replace hP := hP.sub (ws' := pD cZ cI a o o' q κ ω ω' (zN σ, (zM σ) + 1, zS σ, zC σ, va_up ((zF σ)) ((zM σ)) x, va_up ((zG σ)) ((zM σ)) y, va_up ((zP σ)) ((zM σ)) pe, va_up ((zT σ)) ((zM σ)) re, zL σ)) [0, 1, 2, 3, 4, 5, 6, 7, 8, 9, 10, 11, 12, 13, 14, 15, 16, 17, 18] rfl
              replace hD := hD.sub (ws' := pD cZ cI a o o' q κ ω ω' (zN σ, (zM σ) + 1, zS σ, zC σ, va_up ((zF σ)) ((zM σ)) x, va_up ((zG σ)) ((zM σ)) y, va_up ((zP σ)) ((zM σ)) pe, va_up ((zT σ)) ((zM σ)) re, zL σ)) [0, 1, 2, 3, 4, 5, 6, 7, 8, 9, 10, 11, 12, 13, 14, 15, 16, 17, 18] (by decide) rfl
              generalize H1 = H at hP hS ⊢
              have hP : va_P D vwCl (pD cZ cI a o o' q κ ω ω' (zN σ, (zM σ) + 1, zS σ, zC σ, va_up ((zF σ)) ((zM σ)) x, va_up ((zG σ)) ((zM σ)) y, va_up ((zP σ)) ((zM σ)) pe, va_up ((zT σ)) ((zM σ)) re, zL σ)) H := hP
              have hD : va_D A (pD cZ cI a o o' q κ ω ω' (zN σ, (zM σ) + 1, zS σ, zC σ, va_up ((zF σ)) ((zM σ)) x, va_up ((zG σ)) ((zM σ)) y, va_up ((zP σ)) ((zM σ)) pe, va_up ((zT σ)) ((zM σ)) re, zL σ)) := hD
              subst hw
              refine rv_top (show _ = nI ((zM σ) + 1 - 1) from rfl) ?_
              refine lv_istore (lv' := [(5, .int (nI ((zM σ) + 1 - 1))), (0, .ref a), (1, .int (nI x)), (2, .int (nI y)), (3, .int (nI pe)), (4, .int (nI re))]) hx hb dX2_addDoor_113 hl (by decide) rfl (fun ls hl => ?_)
              refine lv_aload_n hx hb dX2_addDoor_115 rfl (lv_at hl 1 rfl) ?_
              refine va_get (D := D) (ci := 2) (v := .ref (o 0)) (C := RX2) (T := TX2) (N := 9) hx hb hts hin2 hown hZ.1 hP 0 rfl rfl 1 (by decide) hf19 (fun _ h9 => h9) rfl dX2_addDoor_116 ?_
              refine lv_aload_n hx hb dX2_addDoor_119 rfl (lv_at hl 1 rfl) ?_
              refine va_get (D := D) (ci := 2) (v := .ref (q 0)) (C := RX2) (T := TX2) (N := 9) hx hb hts hin2 hown hZ.1 hP 0 rfl rfl 0 (by decide) hf10 (fun _ h9 => h9) rfl dX2_addDoor_120 ?_
              refine lv_iconst (v := (-1)) hx hb dX2_addDoor_123 (by decide) ?_
              refine rv_top (show (-1) = iO none from rfl) ?_
              have hPc := hP.sub (ws' := pO cZ cI o q ω (zN σ, (zM σ) + 1, zS σ, zC σ, va_up ((zF σ)) ((zM σ)) x, va_up ((zG σ)) ((zM σ)) y, va_up ((zP σ)) ((zM σ)) pe, va_up ((zT σ)) ((zM σ)) re, zL σ)) [1, 2, 3, 4, 5, 11, 12, 13, 14, 15, 16, 17, 18] rfl
              have hDc := hD.sub (ws' := pO cZ cI o q ω (zN σ, (zM σ) + 1, zS σ, zC σ, va_up ((zF σ)) ((zM σ)) x, va_up ((zG σ)) ((zM σ)) y, va_up ((zP σ)) ((zM σ)) pe, va_up ((zT σ)) ((zM σ)) re, zL σ)) [1, 2, 3, 4, 5, 11, 12, 13, 14, 15, 16, 17, 18] (by decide) rfl
              have hFc := va_free (wc := pO cZ cI o q ω (zN σ, (zM σ) + 1, zS σ, zC σ, va_up ((zF σ)) ((zM σ)) x, va_up ((zG σ)) ((zM σ)) y, va_up ((zP σ)) ((zM σ)) pe, va_up ((zT σ)) ((zM σ)) re, zL σ)) hD hS hA [1, 2, 3, 4, 5, 11, 12, 13, 14, 15, 16, 17, 18] rfl
              refine va_callv (va_runV (As := [.ref (q 0), .int (iO none)]) (rest := []) ⟨hx, hb, hml, hown, hts⟩ (c_X1_lookOut l D cZ cI o q ω (zN σ, (zM σ) + 1, zS σ, zC σ, va_up ((zF σ)) ((zM σ)) x, va_up ((zG σ)) ((zM σ)) y, va_up ((zP σ)) ((zM σ)) pe, va_up ((zT σ)) ((zM σ)) re, zL σ) H.size none (zOk_door hσ (by omega) (by omega) (by omega) (by omega) (by omega)) (fun n h => by cases h)) (cwV 2 hts gX2_addDoor_X1_lookOut rfl rfl rfl (by decide +kernel) ⟨Nat.le_of_ble_eq_true rfl, Nat.le_of_ble_eq_true rfl⟩) ⟨WrP_blind, va_recv hZ.1 hP (ci := 1) (q0 := 1) rfl rfl, WrP_start hPc hDc hZ⟩ rfl rfl hl.1 rfl (lv_room (Nat.le_of_ble_eq_true rfl)) dX2_addDoor_124 ⟨Nat.le_of_ble_eq_true rfl, Nat.le_of_ble_eq_true rfl⟩) hS (fun q _ h => hFc q h) hFc (fun u t H1 locs ht hvm hw hB hz1 hk1 hS => ?_)
              obtain ⟨hP1, hD1⟩ := hB
              rw [ht] at hP1
              obtain ⟨hP, hD⟩ := va_join (wr := ([0, 6, 7, 8, 9, 10] : List Nat).filterMap (fun i => (pD cZ cI a o o' q κ ω ω' (zN σ, (zM σ) + 1, zS σ, zC σ, va_up ((zF σ)) ((zM σ)) x, va_up ((zG σ)) ((zM σ)) y, va_up ((zP σ)) ((zM σ)) pe, va_up ((zT σ)) ((zM σ)) re, zL σ))[i]?)) (w1 := pO cZ cI o q (lookW (zN σ, (zM σ) + 1, zS σ, zC σ, va_up ((zF σ)) ((zM σ)) x, va_up ((zG σ)) ((zM σ)) y, va_up ((zP σ)) ((zM σ)) pe, va_up ((zT σ)) ((zM σ)) re, zL σ) none ω, (lookR (zN σ, (zM σ) + 1, zS σ, zC σ, va_up ((zF σ)) ((zM σ)) x, va_up ((zG σ)) ((zM σ)) y, va_up ((zP σ)) ((zM σ)) pe, va_up ((zT σ)) ((zM σ)) re, zL σ) none ω).1, (lookR (zN σ, (zM σ) + 1, zS σ, zC σ, va_up ((zF σ)) ((zM σ)) x, va_up ((zG σ)) ((zM σ)) y, va_up ((zP σ)) ((zM σ)) pe, va_up ((zT σ)) ((zM σ)) re, zL σ) none ω).2.1, (lookR (zN σ, (zM σ) + 1, zS σ, zC σ, va_up ((zF σ)) ((zM σ)) x, va_up ((zG σ)) ((zM σ)) y, va_up ((zP σ)) ((zM σ)) pe, va_up ((zT σ)) ((zM σ)) re, zL σ) none ω).2.2.1) (zN σ, (zM σ) + 1, zS σ, zC σ, va_up ((zF σ)) ((zM σ)) x, va_up ((zG σ)) ((zM σ)) y, va_up ((zP σ)) ((zM σ)) pe, va_up ((zT σ)) ((zM σ)) re, zL σ)) hP hD [1, 2, 3, 4, 5, 11, 12, 13, 14, 15, 16, 17, 18] [0, 6, 7, 8, 9, 10] rfl rfl (by decide) (by decide) hk1 hFc hP1 hD1
              replace hP := hP.sub (ws' := pD cZ cI a o o' q κ (lookW (zN σ, (zM σ) + 1, zS σ, zC σ, va_up ((zF σ)) ((zM σ)) x, va_up ((zG σ)) ((zM σ)) y, va_up ((zP σ)) ((zM σ)) pe, va_up ((zT σ)) ((zM σ)) re, zL σ) none ω, (lookR (zN σ, (zM σ) + 1, zS σ, zC σ, va_up ((zF σ)) ((zM σ)) x, va_up ((zG σ)) ((zM σ)) y, va_up ((zP σ)) ((zM σ)) pe, va_up ((zT σ)) ((zM σ)) re, zL σ) none ω).1, (lookR (zN σ, (zM σ) + 1, zS σ, zC σ, va_up ((zF σ)) ((zM σ)) x, va_up ((zG σ)) ((zM σ)) y, va_up ((zP σ)) ((zM σ)) pe, va_up ((zT σ)) ((zM σ)) re, zL σ) none ω).2.1, (lookR (zN σ, (zM σ) + 1, zS σ, zC σ, va_up ((zF σ)) ((zM σ)) x, va_up ((zG σ)) ((zM σ)) y, va_up ((zP σ)) ((zM σ)) pe, va_up ((zT σ)) ((zM σ)) re, zL σ) none ω).2.2.1) ω' (zN σ, (zM σ) + 1, zS σ, zC σ, va_up ((zF σ)) ((zM σ)) x, va_up ((zG σ)) ((zM σ)) y, va_up ((zP σ)) ((zM σ)) pe, va_up ((zT σ)) ((zM σ)) re, zL σ)) [0, 6, 7, 8, 9, 10, 1, 2, 3, 4, 5, 11, 12, 13, 14, 15, 16, 17, 18] rfl
              replace hD := hD.sub (ws' := pD cZ cI a o o' q κ (lookW (zN σ, (zM σ) + 1, zS σ, zC σ, va_up ((zF σ)) ((zM σ)) x, va_up ((zG σ)) ((zM σ)) y, va_up ((zP σ)) ((zM σ)) pe, va_up ((zT σ)) ((zM σ)) re, zL σ) none ω, (lookR (zN σ, (zM σ) + 1, zS σ, zC σ, va_up ((zF σ)) ((zM σ)) x, va_up ((zG σ)) ((zM σ)) y, va_up ((zP σ)) ((zM σ)) pe, va_up ((zT σ)) ((zM σ)) re, zL σ) none ω).1, (lookR (zN σ, (zM σ) + 1, zS σ, zC σ, va_up ((zF σ)) ((zM σ)) x, va_up ((zG σ)) ((zM σ)) y, va_up ((zP σ)) ((zM σ)) pe, va_up ((zT σ)) ((zM σ)) re, zL σ) none ω).2.1, (lookR (zN σ, (zM σ) + 1, zS σ, zC σ, va_up ((zF σ)) ((zM σ)) x, va_up ((zG σ)) ((zM σ)) y, va_up ((zP σ)) ((zM σ)) pe, va_up ((zT σ)) ((zM σ)) re, zL σ) none ω).2.2.1) ω' (zN σ, (zM σ) + 1, zS σ, zC σ, va_up ((zF σ)) ((zM σ)) x, va_up ((zG σ)) ((zM σ)) y, va_up ((zP σ)) ((zM σ)) pe, va_up ((zT σ)) ((zM σ)) re, zL σ)) [0, 6, 7, 8, 9, 10, 1, 2, 3, 4, 5, 11, 12, 13, 14, 15, 16, 17, 18] (by decide) rfl
              generalize H1 = H at hP hS ⊢
              have hP : va_P D vwCl (pD cZ cI a o o' q κ (lookW (zN σ, (zM σ) + 1, zS σ, zC σ, va_up ((zF σ)) ((zM σ)) x, va_up ((zG σ)) ((zM σ)) y, va_up ((zP σ)) ((zM σ)) pe, va_up ((zT σ)) ((zM σ)) re, zL σ) none ω, (lookR (zN σ, (zM σ) + 1, zS σ, zC σ, va_up ((zF σ)) ((zM σ)) x, va_up ((zG σ)) ((zM σ)) y, va_up ((zP σ)) ((zM σ)) pe, va_up ((zT σ)) ((zM σ)) re, zL σ) none ω).1, (lookR (zN σ, (zM σ) + 1, zS σ, zC σ, va_up ((zF σ)) ((zM σ)) x, va_up ((zG σ)) ((zM σ)) y, va_up ((zP σ)) ((zM σ)) pe, va_up ((zT σ)) ((zM σ)) re, zL σ) none ω).2.1, (lookR (zN σ, (zM σ) + 1, zS σ, zC σ, va_up ((zF σ)) ((zM σ)) x, va_up ((zG σ)) ((zM σ)) y, va_up ((zP σ)) ((zM σ)) pe, va_up ((zT σ)) ((zM σ)) re, zL σ) none ω).2.2.1) ω' (zN σ, (zM σ) + 1, zS σ, zC σ, va_up ((zF σ)) ((zM σ)) x, va_up ((zG σ)) ((zM σ)) y, va_up ((zP σ)) ((zM σ)) pe, va_up ((zT σ)) ((zM σ)) re, zL σ)) H := hP
              have hD : va_D A (pD cZ cI a o o' q κ (lookW (zN σ, (zM σ) + 1, zS σ, zC σ, va_up ((zF σ)) ((zM σ)) x, va_up ((zG σ)) ((zM σ)) y, va_up ((zP σ)) ((zM σ)) pe, va_up ((zT σ)) ((zM σ)) re, zL σ) none ω, (lookR (zN σ, (zM σ) + 1, zS σ, zC σ, va_up ((zF σ)) ((zM σ)) x, va_up ((zG σ)) ((zM σ)) y, va_up ((zP σ)) ((zM σ)) pe, va_up ((zT σ)) ((zM σ)) re, zL σ) none ω).1, (lookR (zN σ, (zM σ) + 1, zS σ, zC σ, va_up ((zF σ)) ((zM σ)) x, va_up ((zG σ)) ((zM σ)) y, va_up ((zP σ)) ((zM σ)) pe, va_up ((zT σ)) ((zM σ)) re, zL σ) none ω).2.1, (lookR (zN σ, (zM σ) + 1, zS σ, zC σ, va_up ((zF σ)) ((zM σ)) x, va_up ((zG σ)) ((zM σ)) y, va_up ((zP σ)) ((zM σ)) pe, va_up ((zT σ)) ((zM σ)) re, zL σ) none ω).2.2.1) ω' (zN σ, (zM σ) + 1, zS σ, zC σ, va_up ((zF σ)) ((zM σ)) x, va_up ((zG σ)) ((zM σ)) y, va_up ((zP σ)) ((zM σ)) pe, va_up ((zT σ)) ((zM σ)) re, zL σ)) := hD
              refine lv_iload hx hb dX2_addDoor_127 (lv_at hl 0 rfl) ?_
              have hP9 : va_P D vwCl (pD cZ cI a o o' q κ (lookW (zN σ, zM σ + 1, zS σ, zC σ, va_up (zF σ) (zM σ) x, va_up (zG σ) (zM σ) y, va_up (zP σ) (zM σ) pe, va_up (zT σ) (zM σ) re, zL σ) none ω, (lookR (zN σ, zM σ + 1, zS σ, zC σ, va_up (zF σ) (zM σ) x, va_up (zG σ) (zM σ) y, va_up (zP σ) (zM σ) pe, va_up (zT σ) (zM σ) re, zL σ) none ω).1, (lookR (zN σ, zM σ + 1, zS σ, zC σ, va_up (zF σ) (zM σ) x, va_up (zG σ) (zM σ) y, va_up (zP σ) (zM σ) pe, va_up (zT σ) (zM σ) re, zL σ) none ω).2.1, (lookR (zN σ, zM σ + 1, zS σ, zC σ, va_up (zF σ) (zM σ) x, va_up (zG σ) (zM σ) y, va_up (zP σ) (zM σ) pe, va_up (zT σ) (zM σ) re, zL σ) none ω).2.2.1) ω' (zN σ, zM σ + 1, zS σ, zC σ, va_up (zF σ) (zM σ) x, va_up (zG σ) (zM σ) y, va_up (zP σ) (zM σ) pe, va_up (zT σ) (zM σ) re, zL σ)) H := by exact hP
              have hD9 : va_D A (pD cZ cI a o o' q κ (lookW (zN σ, zM σ + 1, zS σ, zC σ, va_up (zF σ) (zM σ) x, va_up (zG σ) (zM σ) y, va_up (zP σ) (zM σ) pe, va_up (zT σ) (zM σ) re, zL σ) none ω, (lookR (zN σ, zM σ + 1, zS σ, zC σ, va_up (zF σ) (zM σ) x, va_up (zG σ) (zM σ) y, va_up (zP σ) (zM σ) pe, va_up (zT σ) (zM σ) re, zL σ) none ω).1, (lookR (zN σ, zM σ + 1, zS σ, zC σ, va_up (zF σ) (zM σ) x, va_up (zG σ) (zM σ) y, va_up (zP σ) (zM σ) pe, va_up (zT σ) (zM σ) re, zL σ) none ω).2.1, (lookR (zN σ, zM σ + 1, zS σ, zC σ, va_up (zF σ) (zM σ) x, va_up (zG σ) (zM σ) y, va_up (zP σ) (zM σ) pe, va_up (zT σ) (zM σ) re, zL σ) none ω).2.2.1) ω' (zN σ, zM σ + 1, zS σ, zC σ, va_up (zF σ) (zM σ) x, va_up (zG σ) (zM σ) y, va_up (zP σ) (zM σ) pe, va_up (zT σ) (zM σ) re, zL σ)) := by exact hD
              exact W.iret (v := nI ((zM σ) + 1 - 1)) hx hb hr (fun t ht hW => ⟨⟨_, (), rfl, rfl, by rw [ht]; exact hP9, hD9⟩, hS.F ht⟩) hS.2.2 dX2_addDoor_129
            · skip
              exact absurd hj c88_13
          · skip
            exfalso; omega
        · skip
          exfalso; omega
  · skip
    exact absurd c12_5 hne

set_option maxHeartbeats 4000000 in
set_option maxRecDepth 100000 in
theorem c_X2_turnLock (l : Launch) (D : va_G) (cZ cI : ClassId) (a : Nat) (o : Nat → Nat) (o' : Nat → Nat) (q : Nat → Nat) (κ : CS) (ω : OS) (ω' : OS) (σ : HS) (sz : Nat) (d : Nat) (hσ : zOk σ) (hd8 : d < zM σ) : Met l yX2_turnLock wsX2_turnLock ({ frames := 4, cells := 0, slots := 0, locals := 98 }) (WrP D cZ cI [.ref a, .int (nI d)] (pD cZ cI a o o' q κ ω ω' σ) sz) (WrI D (pD cZ cI a o o' q κ (lookW (zN σ, zM σ, zS σ, zC σ, zF σ, zG σ, zP σ, zT σ, va_up (zL σ) d (!(zL σ d))) none ω, (lookR (zN σ, zM σ, zS σ, zC σ, zF σ, zG σ, zP σ, zT σ, va_up (zL σ) d (!(zL σ d))) none ω).1, (lookR (zN σ, zM σ, zS σ, zC σ, zF σ, zG σ, zP σ, zT σ, va_up (zL σ) d (!(zL σ d))) none ω).2.1, (lookR (zN σ, zM σ, zS σ, zC σ, zF σ, zG σ, zP σ, zT σ, va_up (zL σ) d (!(zL σ d))) none ω).2.2.1) ω' (zN σ, zM σ, zS σ, zC σ, zF σ, zG σ, zP σ, zT σ, va_up (zL σ) d (!(zL σ d)))) (va_A (pD cZ cI a o o' q κ ω ω' σ) sz) (bI (!(zL σ d)))) 0 0 (va_A (pD cZ cI a o o' q κ ω ω' σ) sz) := by
  refine Met.ofW (cc := cX2_turnLock) (maxL := 2) (ret := (some .boolean)) (by decide) rfl ?_
  intro p e s m args below meth c s₁ B hml hv
  obtain ⟨rfl, hsz, hP, hZ, hD0⟩ := hv
  have hx := B.exec
  have hb := B.bytes
  have hr := B.returns
  have hts := atoms_spec (ws := wsX2_turnLock) B.pre
  have hown : s.vm.findClass RX2 = some m.cls := findClass_of_methodNamed B.named
  have hlocks := B.notSynchronized
  subst hsz
  have hD := hD0.self (sz := s.heap.size)
  generalize hAe : va_A (pD cZ cI a o o' q κ ω ω' σ) s.heap.size = A at hD ⊢
  have hA : ∀ q : Nat, s.heap.size ≤ q → A q := fun q h => by rw [← hAe]; exact Or.inr h
  have hS : va_S A s.heap s.heap [] := va_S.rf
  have hP : va_P D vwCl (pD cZ cI a o o' q κ ω ω' σ) s.heap := hP
  have hl := lv_entry ([.ref a, .int (nI d)]) (n := 2) (Nat.le_of_ble_eq_true rfl)
  rw [lg_entry_eq]
  generalize (lg_sl ([.ref a, .int (nI d)]) ++ List.replicate (2 - (lg_sl ([.ref a, .int (nI d)])).length) Slot.unset).toArray = ls at hl ⊢
  have hl : lv_has ls 2 [(0, .ref a), (1, .int (nI d))] := hl
  have hin2 : ∀ w ∈ u_ws RX2 TX2 9, w ∈ wsX2_turnLock := by decide +kernel
  have hin0 : ∀ w ∈ u_ws RX0 TX0 9, w ∈ wsX2_turnLock := by decide +kernel
  have hf10 := hts (.fieldLink RX2 10 "DoorChase" "house" "LDoorChase$House;") (by decide +kernel)
  have hf19 := hts (.fieldLink RX2 19 "DoorChase" "outlook" "LDoorChase$Outlook;") (by decide +kernel)
  have hf80 := hts (.fieldLink RX2 80 "DoorChase$House" "locked" "[Z") (by decide +kernel)
  obtain ⟨hσ1, hσ2, hσ3, hσ4, hσ5, hσ6, hσ7⟩ := id hσ
  refine lv_aload_n hx hb dX2_turnLock_0 rfl (lv_at hl 0 rfl) ?_
  refine lv_iload_n hx hb dX2_turnLock_1 rfl (lv_at hl 1 rfl) ?_
  refine va_csv (va_runV (As := [.int (nI d)]) (rest := []) ⟨hx, hb, hml, hown, hts⟩ (c_X2_requireDoor l D cZ cI a o o' q κ ω ω' σ  d (by first | assumption | omega) (by first | assumption | omega)) (cwV 1 hts gX2_turnLock_X2_requireDoor rfl rfl rfl (by decide +kernel) ⟨Nat.le_of_ble_eq_true rfl, Nat.le_of_ble_eq_true rfl⟩) ⟨RdP_blind, va_recv hZ.1 hP (ci := 2) (q0 := 0) rfl rfl, RdP_start (hP.sub (ws' := pD cZ cI a o o' q κ ω ω' σ) [0, 1, 2, 3, 4, 5, 6, 7, 8, 9, 10, 11, 12, 13, 14, 15, 16, 17, 18] rfl) hZ⟩ rfl rfl hl.1 rfl (lv_room (Nat.le_of_ble_eq_true rfl)) dX2_turnLock_2 ⟨Nat.le_of_ble_eq_true rfl, Nat.le_of_ble_eq_true rfl⟩).run (fun _ => ?_)
  refine lv_aload_n hx hb dX2_turnLock_5 rfl (lv_at hl 0 rfl) ?_
  refine va_get (D := D) (ci := 2) (v := .ref (q 0)) (C := RX2) (T := TX2) (N := 9) hx hb hts hin2 hown hZ.1 hP 0 rfl rfl 0 (by decide) hf10 (fun _ h9 => h9) rfl dX2_turnLock_6 ?_
  refine va_get (D := D) (ci := 0) (v := .ref (q 7)) (C := RX0) (T := TX0) (N := 9) hx hb hts hin0 hown hZ.1 hP 11 rfl rfl 8 (by decide) hf80 (fun _ h9 => h9) rfl dX2_turnLock_9 ?_
  refine lv_iload_n hx hb dX2_turnLock_12 rfl (lv_at hl 1 rfl) ?_
  refine lv_aload_n hx hb dX2_turnLock_13 rfl (lv_at hl 0 rfl) ?_
  refine va_get (D := D) (ci := 2) (v := .ref (q 0)) (C := RX2) (T := TX2) (N := 9) hx hb hts hin2 hown hZ.1 hP 0 rfl rfl 0 (by decide) hf10 (fun _ h9 => h9) rfl dX2_turnLock_14 ?_
  refine va_get (D := D) (ci := 0) (v := .ref (q 7)) (C := RX0) (T := TX0) (N := 9) hx hb hts hin0 hown hZ.1 hP 11 rfl rfl 8 (by decide) hf80 (fun _ h9 => h9) rfl dX2_turnLock_17 ?_
  refine lv_iload_n hx hb dX2_turnLock_20 rfl (lv_at hl 1 rfl) ?_
  refine rv_zald hx hb hZ.1 hP 18 0 rfl rfl (r := d) (by omega) (by decide) (v := bI ((zL σ) d)) rfl dX2_turnLock_21 ?_
  refine rv_ifneB (tgt := 29) hx hb dX2_turnLock_22 (by decide) (fun c22_3 => ?_) (fun c22_3 => ?_)
  · skip
    refine lv_iconst (v := nI 0) hx hb dX2_turnLock_29 (by decide) ?_
    refine rv_top (show nI 0 = bI false from rfl) ?_
    refine rv_zast hx hb hZ.1 hP hD hS 18 0 rfl rfl (r := d) (by omega) (by decide) (encB_up _ _ _) dX2_turnLock_30 (fun H locs hP hD hS => ?_)
    have hP : va_P D vwCl (pD cZ cI a o o' q κ ω ω' (zN σ, zM σ, zS σ, zC σ, zF σ, zG σ, zP σ, zT σ, va_up (zL σ) d false)) H := hP
    have hD : va_D A (pD cZ cI a o o' q κ ω ω' (zN σ, zM σ, zS σ, zC σ, zF σ, zG σ, zP σ, zT σ, va_up (zL σ) d false)) := hD
    refine lv_aload_n hx hb dX2_turnLock_31 rfl (lv_at hl 0 rfl) ?_
    refine va_get (D := D) (ci := 2) (v := .ref (o 0)) (C := RX2) (T := TX2) (N := 9) hx hb hts hin2 hown hZ.1 hP 0 rfl rfl 1 (by decide) hf19 (fun _ h9 => h9) rfl dX2_turnLock_32 ?_
    refine lv_aload_n hx hb dX2_turnLock_35 rfl (lv_at hl 0 rfl) ?_
    refine va_get (D := D) (ci := 2) (v := .ref (q 0)) (C := RX2) (T := TX2) (N := 9) hx hb hts hin2 hown hZ.1 hP 0 rfl rfl 0 (by decide) hf10 (fun _ h9 => h9) rfl dX2_turnLock_36 ?_
    refine lv_iconst (v := (-1)) hx hb dX2_turnLock_39 (by decide) ?_
    refine rv_top (show (-1) = iO none from rfl) ?_
    have hPc := hP.sub (ws' := pO cZ cI o q ω (zN σ, zM σ, zS σ, zC σ, zF σ, zG σ, zP σ, zT σ, va_up (zL σ) d false)) [1, 2, 3, 4, 5, 11, 12, 13, 14, 15, 16, 17, 18] rfl
    have hDc := hD.sub (ws' := pO cZ cI o q ω (zN σ, zM σ, zS σ, zC σ, zF σ, zG σ, zP σ, zT σ, va_up (zL σ) d false)) [1, 2, 3, 4, 5, 11, 12, 13, 14, 15, 16, 17, 18] (by decide) rfl
    have hFc := va_free (wc := pO cZ cI o q ω (zN σ, zM σ, zS σ, zC σ, zF σ, zG σ, zP σ, zT σ, va_up (zL σ) d false)) hD hS hA [1, 2, 3, 4, 5, 11, 12, 13, 14, 15, 16, 17, 18] rfl
    refine va_callv (va_runV (As := [.ref (q 0), .int (iO none)]) (rest := []) ⟨hx, hb, hml, hown, hts⟩ (c_X1_lookOut l D cZ cI o q ω (zN σ, zM σ, zS σ, zC σ, zF σ, zG σ, zP σ, zT σ, va_up (zL σ) d false) H.size none (zOk_lock hσ _) (fun n h => by cases h)) (cwV 2 hts gX2_turnLock_X1_lookOut rfl rfl rfl (by decide +kernel) ⟨Nat.le_of_ble_eq_true rfl, Nat.le_of_ble_eq_true rfl⟩) ⟨WrP_blind, va_recv hZ.1 hP (ci := 1) (q0 := 1) rfl rfl, WrP_start hPc hDc hZ⟩ rfl rfl hl.1 rfl (lv_room (Nat.le_of_ble_eq_true rfl)) dX2_turnLock_40 ⟨Nat.le_of_ble_eq_true rfl, Nat.le_of_ble_eq_true rfl⟩) hS (fun q _ h => hFc q h) hFc (fun u t H1 locs ht hvm hw hB hz1 hk1 hS => ?_)
    obtain ⟨hP1, hD1⟩ := hB
    rw [ht] at hP1
    obtain ⟨hP, hD⟩ := va_join (wr := ([0, 6, 7, 8, 9, 10] : List Nat).filterMap (fun i => (pD cZ cI a o o' q κ ω ω' (zN σ, zM σ, zS σ, zC σ, zF σ, zG σ, zP σ, zT σ, va_up (zL σ) d false))[i]?)) (w1 := pO cZ cI o q (lookW (zN σ, zM σ, zS σ, zC σ, zF σ, zG σ, zP σ, zT σ, va_up (zL σ) d false) none ω, (lookR (zN σ, zM σ, zS σ, zC σ, zF σ, zG σ, zP σ, zT σ, va_up (zL σ) d false) none ω).1, (lookR (zN σ, zM σ, zS σ, zC σ, zF σ, zG σ, zP σ, zT σ, va_up (zL σ) d false) none ω).2.1, (lookR (zN σ, zM σ, zS σ, zC σ, zF σ, zG σ, zP σ, zT σ, va_up (zL σ) d false) none ω).2.2.1) (zN σ, zM σ, zS σ, zC σ, zF σ, zG σ, zP σ, zT σ, va_up (zL σ) d false)) hP hD [1, 2, 3, 4, 5, 11, 12, 13, 14, 15, 16, 17, 18] [0, 6, 7, 8, 9, 10] rfl rfl (by decide) (by decide) hk1 hFc hP1 hD1
    replace hP := hP.sub (ws' := pD cZ cI a o o' q κ (lookW (zN σ, zM σ, zS σ, zC σ, zF σ, zG σ, zP σ, zT σ, va_up (zL σ) d false) none ω, (lookR (zN σ, zM σ, zS σ, zC σ, zF σ, zG σ, zP σ, zT σ, va_up (zL σ) d false) none ω).1, (lookR (zN σ, zM σ, zS σ, zC σ, zF σ, zG σ, zP σ, zT σ, va_up (zL σ) d false) none ω).2.1, (lookR (zN σ, zM σ, zS σ, zC σ, zF σ, zG σ, zP σ, zT σ, va_up (zL σ) d false) none ω).2.2.1) ω' (zN σ, zM σ, zS σ, zC σ, zF σ, zG σ, zP σ, zT σ, va_up (zL σ) d false)) [0, 6, 7, 8, 9, 10, 1, 2, 3, 4, 5, 11, 12, 13, 14, 15, 16, 17, 18] rfl
    replace hD := hD.sub (ws' := pD cZ cI a o o' q κ (lookW (zN σ, zM σ, zS σ, zC σ, zF σ, zG σ, zP σ, zT σ, va_up (zL σ) d false) none ω, (lookR (zN σ, zM σ, zS σ, zC σ, zF σ, zG σ, zP σ, zT σ, va_up (zL σ) d false) none ω).1, (lookR (zN σ, zM σ, zS σ, zC σ, zF σ, zG σ, zP σ, zT σ, va_up (zL σ) d false) none ω).2.1, (lookR (zN σ, zM σ, zS σ, zC σ, zF σ, zG σ, zP σ, zT σ, va_up (zL σ) d false) none ω).2.2.1) ω' (zN σ, zM σ, zS σ, zC σ, zF σ, zG σ, zP σ, zT σ, va_up (zL σ) d false)) [0, 6, 7, 8, 9, 10, 1, 2, 3, 4, 5, 11, 12, 13, 14, 15, 16, 17, 18] (by decide) rfl
    generalize H1 = H at hP hS ⊢
    have hP : va_P D vwCl (pD cZ cI a o o' q κ (lookW (zN σ, zM σ, zS σ, zC σ, zF σ, zG σ, zP σ, zT σ, va_up (zL σ) d false) none ω, (lookR (zN σ, zM σ, zS σ, zC σ, zF σ, zG σ, zP σ, zT σ, va_up (zL σ) d false) none ω).1, (lookR (zN σ, zM σ, zS σ, zC σ, zF σ, zG σ, zP σ, zT σ, va_up (zL σ) d false) none ω).2.1, (lookR (zN σ, zM σ, zS σ, zC σ, zF σ, zG σ, zP σ, zT σ, va_up (zL σ) d false) none ω).2.2.1) ω' (zN σ, zM σ, zS σ, zC σ, zF σ, zG σ, zP σ, zT σ, va_up (zL σ) d false)) H := hP
    have hD : va_D A (pD cZ cI a o o' q κ (lookW (zN σ, zM σ, zS σ, zC σ, zF σ, zG σ, zP σ, zT σ, va_up (zL σ) d false) none ω, (lookR (zN σ, zM σ, zS σ, zC σ, zF σ, zG σ, zP σ, zT σ, va_up (zL σ) d false) none ω).1, (lookR (zN σ, zM σ, zS σ, zC σ, zF σ, zG σ, zP σ, zT σ, va_up (zL σ) d false) none ω).2.1, (lookR (zN σ, zM σ, zS σ, zC σ, zF σ, zG σ, zP σ, zT σ, va_up (zL σ) d false) none ω).2.2.1) ω' (zN σ, zM σ, zS σ, zC σ, zF σ, zG σ, zP σ, zT σ, va_up (zL σ) d false)) := hD
    refine lv_aload_n hx hb dX2_turnLock_43 rfl (lv_at hl 0 rfl) ?_
    refine va_get (D := D) (ci := 2) (v := .ref (q 0)) (C := RX2) (T := TX2) (N := 9) hx hb hts hin2 hown hZ.1 hP 0 rfl rfl 0 (by decide) hf10 (fun _ h9 => h9) rfl dX2_turnLock_44 ?_
    refine va_get (D := D) (ci := 0) (v := .ref (q 7)) (C := RX0) (T := TX0) (N := 9) hx hb hts hin0 hown hZ.1 hP 11 rfl rfl 8 (by decide) hf80 (fun _ h9 => h9) rfl dX2_turnLock_47 ?_
    refine lv_iload_n hx hb dX2_turnLock_50 rfl (lv_at hl 1 rfl) ?_
    refine rv_zald hx hb hZ.1 hP 18 0 rfl rfl (r := d) (by omega) (by decide) (v := bI ((va_up (zL σ) d false) d)) rfl dX2_turnLock_51 ?_
    have hP9 : va_P D vwCl (pD cZ cI a o o' q κ (lookW (zN σ, zM σ, zS σ, zC σ, zF σ, zG σ, zP σ, zT σ, va_up (zL σ) d (!(zL σ d))) none ω, (lookR (zN σ, zM σ, zS σ, zC σ, zF σ, zG σ, zP σ, zT σ, va_up (zL σ) d (!(zL σ d))) none ω).1, (lookR (zN σ, zM σ, zS σ, zC σ, zF σ, zG σ, zP σ, zT σ, va_up (zL σ) d (!(zL σ d))) none ω).2.1, (lookR (zN σ, zM σ, zS σ, zC σ, zF σ, zG σ, zP σ, zT σ, va_up (zL σ) d (!(zL σ d))) none ω).2.2.1) ω' (zN σ, zM σ, zS σ, zC σ, zF σ, zG σ, zP σ, zT σ, va_up (zL σ) d (!(zL σ d)))) H := by (rw [show (!(zL σ d)) = false from by rw [show zL σ d = true by assumption]; rfl]; exact hP)
    have hD9 : va_D A (pD cZ cI a o o' q κ (lookW (zN σ, zM σ, zS σ, zC σ, zF σ, zG σ, zP σ, zT σ, va_up (zL σ) d (!(zL σ d))) none ω, (lookR (zN σ, zM σ, zS σ, zC σ, zF σ, zG σ, zP σ, zT σ, va_up (zL σ) d (!(zL σ d))) none ω).1, (lookR (zN σ, zM σ, zS σ, zC σ, zF σ, zG σ, zP σ, zT σ, va_up (zL σ) d (!(zL σ d))) none ω).2.1, (lookR (zN σ, zM σ, zS σ, zC σ, zF σ, zG σ, zP σ, zT σ, va_up (zL σ) d (!(zL σ d))) none ω).2.2.1) ω' (zN σ, zM σ, zS σ, zC σ, zF σ, zG σ, zP σ, zT σ, va_up (zL σ) d (!(zL σ d)))) := by (rw [show (!(zL σ d)) = false from by rw [show zL σ d = true by assumption]; rfl]; exact hD)
    exact W.zret (v := bI ((va_up (zL σ) d false) d)) hx hb hr (nr_bI _) (fun t ht hW => ⟨⟨_, (), rfl, (show bI ((va_up (zL σ) d false) d) = bI (!(zL σ d)) from by rw [show (!(zL σ d)) = false from by rw [show zL σ d = true by assumption]; rfl]; simp [va_up]), by rw [ht]; exact hP9, hD9⟩, hS.F ht⟩) hS.2.2 dX2_turnLock_52
  · skip
    refine lv_iconst (v := nI 1) hx hb dX2_turnLock_25 (by decide) ?_
    refine lv_goto (tgt := 30) hx hb dX2_turnLock_26 (by decide) ?_
    refine rv_top (show nI 1 = bI true from rfl) ?_
    refine rv_zast hx hb hZ.1 hP hD hS 18 0 rfl rfl (r := d) (by omega) (by decide) (encB_up _ _ _) dX2_turnLock_30 (fun H locs hP hD hS => ?_)
    have hP : va_P D vwCl (pD cZ cI a o o' q κ ω ω' (zN σ, zM σ, zS σ, zC σ, zF σ, zG σ, zP σ, zT σ, va_up (zL σ) d true)) H := hP
    have hD : va_D A (pD cZ cI a o o' q κ ω ω' (zN σ, zM σ, zS σ, zC σ, zF σ, zG σ, zP σ, zT σ, va_up (zL σ) d true)) := hD
    refine lv_aload_n hx hb dX2_turnLock_31 rfl (lv_at hl 0 rfl) ?_
    refine va_get (D := D) (ci := 2) (v := .ref (o 0)) (C := RX2) (T := TX2) (N := 9) hx hb hts hin2 hown hZ.1 hP 0 rfl rfl 1 (by decide) hf19 (fun _ h9 => h9) rfl dX2_turnLock_32 ?_
    refine lv_aload_n hx hb dX2_turnLock_35 rfl (lv_at hl 0 rfl) ?_
    refine va_get (D := D) (ci := 2) (v := .ref (q 0)) (C := RX2) (T := TX2) (N := 9) hx hb hts hin2 hown hZ.1 hP 0 rfl rfl 0 (by decide) hf10 (fun _ h9 => h9) rfl dX2_turnLock_36 ?_
    refine lv_iconst (v := (-1)) hx hb dX2_turnLock_39 (by decide) ?_
    refine rv_top (show (-1) = iO none from rfl) ?_
    have hPc := hP.sub (ws' := pO cZ cI o q ω (zN σ, zM σ, zS σ, zC σ, zF σ, zG σ, zP σ, zT σ, va_up (zL σ) d true)) [1, 2, 3, 4, 5, 11, 12, 13, 14, 15, 16, 17, 18] rfl
    have hDc := hD.sub (ws' := pO cZ cI o q ω (zN σ, zM σ, zS σ, zC σ, zF σ, zG σ, zP σ, zT σ, va_up (zL σ) d true)) [1, 2, 3, 4, 5, 11, 12, 13, 14, 15, 16, 17, 18] (by decide) rfl
    have hFc := va_free (wc := pO cZ cI o q ω (zN σ, zM σ, zS σ, zC σ, zF σ, zG σ, zP σ, zT σ, va_up (zL σ) d true)) hD hS hA [1, 2, 3, 4, 5, 11, 12, 13, 14, 15, 16, 17, 18] rfl
    refine va_callv (va_runV (As := [.ref (q 0), .int (iO none)]) (rest := []) ⟨hx, hb, hml, hown, hts⟩ (c_X1_lookOut l D cZ cI o q ω (zN σ, zM σ, zS σ, zC σ, zF σ, zG σ, zP σ, zT σ, va_up (zL σ) d true) H.size none (zOk_lock hσ _) (fun n h => by cases h)) (cwV 2 hts gX2_turnLock_X1_lookOut rfl rfl rfl (by decide +kernel) ⟨Nat.le_of_ble_eq_true rfl, Nat.le_of_ble_eq_true rfl⟩) ⟨WrP_blind, va_recv hZ.1 hP (ci := 1) (q0 := 1) rfl rfl, WrP_start hPc hDc hZ⟩ rfl rfl hl.1 rfl (lv_room (Nat.le_of_ble_eq_true rfl)) dX2_turnLock_40 ⟨Nat.le_of_ble_eq_true rfl, Nat.le_of_ble_eq_true rfl⟩) hS (fun q _ h => hFc q h) hFc (fun u t H1 locs ht hvm hw hB hz1 hk1 hS => ?_)
    obtain ⟨hP1, hD1⟩ := hB
    rw [ht] at hP1
    obtain ⟨hP, hD⟩ := va_join (wr := ([0, 6, 7, 8, 9, 10] : List Nat).filterMap (fun i => (pD cZ cI a o o' q κ ω ω' (zN σ, zM σ, zS σ, zC σ, zF σ, zG σ, zP σ, zT σ, va_up (zL σ) d true))[i]?)) (w1 := pO cZ cI o q (lookW (zN σ, zM σ, zS σ, zC σ, zF σ, zG σ, zP σ, zT σ, va_up (zL σ) d true) none ω, (lookR (zN σ, zM σ, zS σ, zC σ, zF σ, zG σ, zP σ, zT σ, va_up (zL σ) d true) none ω).1, (lookR (zN σ, zM σ, zS σ, zC σ, zF σ, zG σ, zP σ, zT σ, va_up (zL σ) d true) none ω).2.1, (lookR (zN σ, zM σ, zS σ, zC σ, zF σ, zG σ, zP σ, zT σ, va_up (zL σ) d true) none ω).2.2.1) (zN σ, zM σ, zS σ, zC σ, zF σ, zG σ, zP σ, zT σ, va_up (zL σ) d true)) hP hD [1, 2, 3, 4, 5, 11, 12, 13, 14, 15, 16, 17, 18] [0, 6, 7, 8, 9, 10] rfl rfl (by decide) (by decide) hk1 hFc hP1 hD1
    replace hP := hP.sub (ws' := pD cZ cI a o o' q κ (lookW (zN σ, zM σ, zS σ, zC σ, zF σ, zG σ, zP σ, zT σ, va_up (zL σ) d true) none ω, (lookR (zN σ, zM σ, zS σ, zC σ, zF σ, zG σ, zP σ, zT σ, va_up (zL σ) d true) none ω).1, (lookR (zN σ, zM σ, zS σ, zC σ, zF σ, zG σ, zP σ, zT σ, va_up (zL σ) d true) none ω).2.1, (lookR (zN σ, zM σ, zS σ, zC σ, zF σ, zG σ, zP σ, zT σ, va_up (zL σ) d true) none ω).2.2.1) ω' (zN σ, zM σ, zS σ, zC σ, zF σ, zG σ, zP σ, zT σ, va_up (zL σ) d true)) [0, 6, 7, 8, 9, 10, 1, 2, 3, 4, 5, 11, 12, 13, 14, 15, 16, 17, 18] rfl
    replace hD := hD.sub (ws' := pD cZ cI a o o' q κ (lookW (zN σ, zM σ, zS σ, zC σ, zF σ, zG σ, zP σ, zT σ, va_up (zL σ) d true) none ω, (lookR (zN σ, zM σ, zS σ, zC σ, zF σ, zG σ, zP σ, zT σ, va_up (zL σ) d true) none ω).1, (lookR (zN σ, zM σ, zS σ, zC σ, zF σ, zG σ, zP σ, zT σ, va_up (zL σ) d true) none ω).2.1, (lookR (zN σ, zM σ, zS σ, zC σ, zF σ, zG σ, zP σ, zT σ, va_up (zL σ) d true) none ω).2.2.1) ω' (zN σ, zM σ, zS σ, zC σ, zF σ, zG σ, zP σ, zT σ, va_up (zL σ) d true)) [0, 6, 7, 8, 9, 10, 1, 2, 3, 4, 5, 11, 12, 13, 14, 15, 16, 17, 18] (by decide) rfl
    generalize H1 = H at hP hS ⊢
    have hP : va_P D vwCl (pD cZ cI a o o' q κ (lookW (zN σ, zM σ, zS σ, zC σ, zF σ, zG σ, zP σ, zT σ, va_up (zL σ) d true) none ω, (lookR (zN σ, zM σ, zS σ, zC σ, zF σ, zG σ, zP σ, zT σ, va_up (zL σ) d true) none ω).1, (lookR (zN σ, zM σ, zS σ, zC σ, zF σ, zG σ, zP σ, zT σ, va_up (zL σ) d true) none ω).2.1, (lookR (zN σ, zM σ, zS σ, zC σ, zF σ, zG σ, zP σ, zT σ, va_up (zL σ) d true) none ω).2.2.1) ω' (zN σ, zM σ, zS σ, zC σ, zF σ, zG σ, zP σ, zT σ, va_up (zL σ) d true)) H := hP
    have hD : va_D A (pD cZ cI a o o' q κ (lookW (zN σ, zM σ, zS σ, zC σ, zF σ, zG σ, zP σ, zT σ, va_up (zL σ) d true) none ω, (lookR (zN σ, zM σ, zS σ, zC σ, zF σ, zG σ, zP σ, zT σ, va_up (zL σ) d true) none ω).1, (lookR (zN σ, zM σ, zS σ, zC σ, zF σ, zG σ, zP σ, zT σ, va_up (zL σ) d true) none ω).2.1, (lookR (zN σ, zM σ, zS σ, zC σ, zF σ, zG σ, zP σ, zT σ, va_up (zL σ) d true) none ω).2.2.1) ω' (zN σ, zM σ, zS σ, zC σ, zF σ, zG σ, zP σ, zT σ, va_up (zL σ) d true)) := hD
    refine lv_aload_n hx hb dX2_turnLock_43 rfl (lv_at hl 0 rfl) ?_
    refine va_get (D := D) (ci := 2) (v := .ref (q 0)) (C := RX2) (T := TX2) (N := 9) hx hb hts hin2 hown hZ.1 hP 0 rfl rfl 0 (by decide) hf10 (fun _ h9 => h9) rfl dX2_turnLock_44 ?_
    refine va_get (D := D) (ci := 0) (v := .ref (q 7)) (C := RX0) (T := TX0) (N := 9) hx hb hts hin0 hown hZ.1 hP 11 rfl rfl 8 (by decide) hf80 (fun _ h9 => h9) rfl dX2_turnLock_47 ?_
    refine lv_iload_n hx hb dX2_turnLock_50 rfl (lv_at hl 1 rfl) ?_
    refine rv_zald hx hb hZ.1 hP 18 0 rfl rfl (r := d) (by omega) (by decide) (v := bI ((va_up (zL σ) d true) d)) rfl dX2_turnLock_51 ?_
    have hP9 : va_P D vwCl (pD cZ cI a o o' q κ (lookW (zN σ, zM σ, zS σ, zC σ, zF σ, zG σ, zP σ, zT σ, va_up (zL σ) d (!(zL σ d))) none ω, (lookR (zN σ, zM σ, zS σ, zC σ, zF σ, zG σ, zP σ, zT σ, va_up (zL σ) d (!(zL σ d))) none ω).1, (lookR (zN σ, zM σ, zS σ, zC σ, zF σ, zG σ, zP σ, zT σ, va_up (zL σ) d (!(zL σ d))) none ω).2.1, (lookR (zN σ, zM σ, zS σ, zC σ, zF σ, zG σ, zP σ, zT σ, va_up (zL σ) d (!(zL σ d))) none ω).2.2.1) ω' (zN σ, zM σ, zS σ, zC σ, zF σ, zG σ, zP σ, zT σ, va_up (zL σ) d (!(zL σ d)))) H := by (rw [show (!(zL σ d)) = true from by rw [show zL σ d = false by assumption]; rfl]; exact hP)
    have hD9 : va_D A (pD cZ cI a o o' q κ (lookW (zN σ, zM σ, zS σ, zC σ, zF σ, zG σ, zP σ, zT σ, va_up (zL σ) d (!(zL σ d))) none ω, (lookR (zN σ, zM σ, zS σ, zC σ, zF σ, zG σ, zP σ, zT σ, va_up (zL σ) d (!(zL σ d))) none ω).1, (lookR (zN σ, zM σ, zS σ, zC σ, zF σ, zG σ, zP σ, zT σ, va_up (zL σ) d (!(zL σ d))) none ω).2.1, (lookR (zN σ, zM σ, zS σ, zC σ, zF σ, zG σ, zP σ, zT σ, va_up (zL σ) d (!(zL σ d))) none ω).2.2.1) ω' (zN σ, zM σ, zS σ, zC σ, zF σ, zG σ, zP σ, zT σ, va_up (zL σ) d (!(zL σ d)))) := by (rw [show (!(zL σ d)) = true from by rw [show zL σ d = false by assumption]; rfl]; exact hD)
    exact W.zret (v := bI ((va_up (zL σ) d true) d)) hx hb hr (nr_bI _) (fun t ht hW => ⟨⟨_, (), rfl, (show bI ((va_up (zL σ) d true) d) = bI (!(zL σ d)) from by rw [show (!(zL σ d)) = true from by rw [show zL σ d = false by assumption]; rfl]; simp [va_up]), by rw [ht]; exact hP9, hD9⟩, hS.F ht⟩) hS.2.2 dX2_turnLock_52

set_option maxHeartbeats 4000000 in
set_option maxRecDepth 100000 in
theorem c_X2_putCheese (l : Launch) (D : va_G) (cZ cI : ClassId) (a : Nat) (o : Nat → Nat) (o' : Nat → Nat) (q : Nat → Nat) (κ : CS) (ω : OS) (ω' : OS) (σ : HS) (sz : Nat) (r : Nat) (mn : Nat) (hσ : zOk σ) (hr8 : r < zN σ) (h1 : 1 ≤ mn) (h9 : mn ≤ 9) (hs9 : zC σ r + mn ≤ 9) : Met l yX2_putCheese wsX2_putCheese ({ frames := 1, cells := 0, slots := 0, locals := 21 }) (WrP D cZ cI [.ref a, .int (nI r), .int (nI mn)] (pD cZ cI a o o' q κ ω ω' σ) sz) (WrI D (pD cZ cI a o o' q κ ω ω' (zN σ, zM σ, zS σ, va_up (zC σ) r (zC σ r + mn), zF σ, zG σ, zP σ, zT σ, zL σ)) (va_A (pD cZ cI a o o' q κ ω ω' σ) sz) (nI (zC σ r + mn))) 0 0 (va_A (pD cZ cI a o o' q κ ω ω' σ) sz) := by
  refine Met.ofW (cc := cX2_putCheese) (maxL := 3) (ret := (some .int)) (by decide) rfl ?_
  intro p e s m args below meth c s₁ B hml hv
  obtain ⟨rfl, hsz, hP, hZ, hD0⟩ := hv
  have hx := B.exec
  have hb := B.bytes
  have hr := B.returns
  have hts := atoms_spec (ws := wsX2_putCheese) B.pre
  have hown : s.vm.findClass RX2 = some m.cls := findClass_of_methodNamed B.named
  have hlocks := B.notSynchronized
  subst hsz
  have hD := hD0.self (sz := s.heap.size)
  generalize hAe : va_A (pD cZ cI a o o' q κ ω ω' σ) s.heap.size = A at hD ⊢
  have hA : ∀ q : Nat, s.heap.size ≤ q → A q := fun q h => by rw [← hAe]; exact Or.inr h
  have hS : va_S A s.heap s.heap [] := va_S.rf
  have hP : va_P D vwCl (pD cZ cI a o o' q κ ω ω' σ) s.heap := hP
  have hl := lv_entry ([.ref a, .int (nI r), .int (nI mn)]) (n := 3) (Nat.le_of_ble_eq_true rfl)
  rw [lg_entry_eq]
  generalize (lg_sl ([.ref a, .int (nI r), .int (nI mn)]) ++ List.replicate (3 - (lg_sl ([.ref a, .int (nI r), .int (nI mn)])).length) Slot.unset).toArray = ls at hl ⊢
  have hl : lv_has ls 3 [(0, .ref a), (1, .int (nI r)), (2, .int (nI mn))] := hl
  have hin2 : ∀ w ∈ u_ws RX2 TX2 9, w ∈ wsX2_putCheese := by decide +kernel
  have hin0 : ∀ w ∈ u_ws RX0 TX0 9, w ∈ wsX2_putCheese := by decide +kernel
  have hf10 := hts (.fieldLink RX2 10 "DoorChase" "house" "LDoorChase$House;") (by decide +kernel)
  have hf86 := hts (.fieldLink RX2 86 "DoorChase$House" "cheese" "[I") (by decide +kernel)
  obtain ⟨hσ1, hσ2, hσ3, hσ4, hσ5, hσ6, hσ7⟩ := id hσ
  refine lv_aload_n hx hb dX2_putCheese_0 rfl (lv_at hl 0 rfl) ?_
  refine lv_iload_n hx hb dX2_putCheese_1 rfl (lv_at hl 1 rfl) ?_
  refine va_csv (va_runV (As := [.int (nI r)]) (rest := []) ⟨hx, hb, hml, hown, hts⟩ (c_X2_requireRoom l D cZ cI a o o' q κ ω ω' σ  r (by first | assumption | omega) (by first | assumption | omega)) (cwV 1 hts gX2_putCheese_X2_requireRoom rfl rfl rfl (by decide +kernel) ⟨Nat.le_of_ble_eq_true rfl, Nat.le_of_ble_eq_true rfl⟩) ⟨RdP_blind, va_recv hZ.1 hP (ci := 2) (q0 := 0) rfl rfl, RdP_start (hP.sub (ws' := pD cZ cI a o o' q κ ω ω' σ) [0, 1, 2, 3, 4, 5, 6, 7, 8, 9, 10, 11, 12, 13, 14, 15, 16, 17, 18] rfl) hZ⟩ rfl rfl hl.1 rfl (lv_room (Nat.le_of_ble_eq_true rfl)) dX2_putCheese_2 ⟨Nat.le_of_ble_eq_true rfl, Nat.le_of_ble_eq_true rfl⟩).run (fun _ => ?_)
  refine lv_iload_n hx hb dX2_putCheese_5 rfl (lv_at hl 2 rfl) ?_
  refine lv_iconst (v := nI 1) hx hb dX2_putCheese_6 (by decide) ?_
  refine rv_lt (tgt := 16) hx hb (by omega) (by omega) dX2_putCheese_7 (by decide) (fun c7_3 => ?_) (fun c7_3 => ?_)
  · skip
    exfalso; omega
  · skip
    refine lv_iload_n hx hb dX2_putCheese_10 rfl (lv_at hl 2 rfl) ?_
    refine lv_bipush (v := nI 9) hx hb dX2_putCheese_11 (by decide) ?_
    refine rv_le (tgt := 26) hx hb (by omega) (by omega) dX2_putCheese_13 (by decide) (fun c13_4 => ?_) (fun c13_4 => ?_)
    · skip
      refine lv_aload_n hx hb dX2_putCheese_26 rfl (lv_at hl 0 rfl) ?_
      refine va_get (D := D) (ci := 2) (v := .ref (q 0)) (C := RX2) (T := TX2) (N := 9) hx hb hts hin2 hown hZ.1 hP 0 rfl rfl 0 (by decide) hf10 (fun _ h9 => h9) rfl dX2_putCheese_27 ?_
      refine va_get (D := D) (ci := 0) (v := .ref (q 2)) (C := RX0) (T := TX0) (N := 9) hx hb hts hin0 hown hZ.1 hP 11 rfl rfl 2 (by decide) hf86 (fun _ h9 => h9) rfl dX2_putCheese_30 ?_
      refine lv_iload_n hx hb dX2_putCheese_33 rfl (lv_at hl 1 rfl) ?_
      refine rv_iald hx hb hZ.1 hP 13 1 rfl rfl (r := r) (by omega) (by decide) (v := nI ((zC σ) r)) rfl dX2_putCheese_34 ?_
      refine lv_iload_n hx hb dX2_putCheese_35 rfl (lv_at hl 2 rfl) ?_
      refine rv_add hx hb dX2_putCheese_36 ?_
      refine lv_bipush (v := nI 9) hx hb dX2_putCheese_37 (by decide) ?_
      refine rv_le (tgt := 52) hx hb (by omega) (by omega) dX2_putCheese_39 (by decide) (fun c39_5 => ?_) (fun c39_5 => ?_)
      · skip
        refine lv_aload_n hx hb dX2_putCheese_52 rfl (lv_at hl 0 rfl) ?_
        refine va_get (D := D) (ci := 2) (v := .ref (q 0)) (C := RX2) (T := TX2) (N := 9) hx hb hts hin2 hown hZ.1 hP 0 rfl rfl 0 (by decide) hf10 (fun _ h9 => h9) rfl dX2_putCheese_53 ?_
        refine va_get (D := D) (ci := 0) (v := .ref (q 2)) (C := RX0) (T := TX0) (N := 9) hx hb hts hin0 hown hZ.1 hP 11 rfl rfl 2 (by decide) hf86 (fun _ h9 => h9) rfl dX2_putCheese_56 ?_
        refine lv_iload_n hx hb dX2_putCheese_59 rfl (lv_at hl 1 rfl) ?_
        refine lv_dup2_11 hx hb dX2_putCheese_60 rfl rfl ?_
        refine rv_iald hx hb hZ.1 hP 13 1 rfl rfl (r := r) (by omega) (by decide) (v := nI ((zC σ) r)) rfl dX2_putCheese_61 ?_
        refine lv_iload_n hx hb dX2_putCheese_62 rfl (lv_at hl 2 rfl) ?_
        refine rv_add hx hb dX2_putCheese_63 ?_
        refine rv_iast hx hb hZ.1 hP hD hS 13 1 rfl rfl (r := r) (by omega) (by decide) (encN_up _ _ _) dX2_putCheese_64 (fun H locs hP hD hS => ?_)
        have hP : va_P D vwCl (pD cZ cI a o o' q κ ω ω' (zN σ, zM σ, zS σ, va_up (zC σ) r ((zC σ) r + mn), zF σ, zG σ, zP σ, zT σ, zL σ)) H := hP
        have hD : va_D A (pD cZ cI a o o' q κ ω ω' (zN σ, zM σ, zS σ, va_up (zC σ) r ((zC σ) r + mn), zF σ, zG σ, zP σ, zT σ, zL σ)) := hD
        refine lv_aload_n hx hb dX2_putCheese_65 rfl (lv_at hl 0 rfl) ?_
        refine va_get (D := D) (ci := 2) (v := .ref (q 0)) (C := RX2) (T := TX2) (N := 9) hx hb hts hin2 hown hZ.1 hP 0 rfl rfl 0 (by decide) hf10 (fun _ h9 => h9) rfl dX2_putCheese_66 ?_
        refine va_get (D := D) (ci := 0) (v := .ref (q 2)) (C := RX0) (T := TX0) (N := 9) hx hb hts hin0 hown hZ.1 hP 11 rfl rfl 2 (by decide) hf86 (fun _ h9 => h9) rfl dX2_putCheese_69 ?_
        refine lv_iload_n hx hb dX2_putCheese_72 rfl (lv_at hl 1 rfl) ?_
        refine rv_iald hx hb hZ.1 hP 13 1 rfl rfl (r := r) (by omega) (by decide) (v := nI ((va_up (zC σ) r ((zC σ) r + mn)) r)) rfl dX2_putCheese_73 ?_
        have hP9 : va_P D vwCl (pD cZ cI a o o' q κ ω ω' (zN σ, zM σ, zS σ, va_up (zC σ) r (zC σ r + mn), zF σ, zG σ, zP σ, zT σ, zL σ)) H := by exact hP
        have hD9 : va_D A (pD cZ cI a o o' q κ ω ω' (zN σ, zM σ, zS σ, va_up (zC σ) r (zC σ r + mn), zF σ, zG σ, zP σ, zT σ, zL σ)) := by exact hD
        exact W.iret (v := nI ((va_up (zC σ) r ((zC σ) r + mn)) r)) hx hb hr (fun t ht hW => ⟨⟨_, (), rfl, (show nI ((va_up (zC σ) r ((zC σ) r + mn)) r) = nI (zC σ r + mn) from by simp [va_up]), by rw [ht]; exact hP9, hD9⟩, hS.F ht⟩) hS.2.2 dX2_putCheese_74
      · skip
        exfalso; omega
    · skip
      exfalso; omega

set_option maxHeartbeats 4000000 in
set_option maxRecDepth 100000 in
theorem c_X2_begin (l : Launch) (D : va_G) (cZ cI : ClassId) (a : Nat) (o : Nat → Nat) (o' : Nat → Nat) (q : Nat → Nat) (κ : CS) (ω : OS) (ω' : OS) (σ : HS) (sz : Nat) (x : Nat) (y : Nat) (hσ : zOk σ) (ha : x < zN σ) (hb8 : y < zN σ) (hne : ¬ x = y) (hs8 : zS σ x = false) : Met l yX2_begin wsX2_begin ({ frames := 4, cells := 0, slots := 0, locals := 86 }) (WrP D cZ cI [.ref a, .int (nI x), .int (nI y)] (pD cZ cI a o o' q κ ω ω' σ) sz) (WrI D (pD cZ cI a o o' q (0, true, false, some x, some y, 0) ω ω' σ) (va_A (pD cZ cI a o o' q κ ω ω' σ) sz) (iO (oT ω ((0 + 0) % 12) x y))) 0 0 (va_A (pD cZ cI a o o' q κ ω ω' σ) sz) := by
  refine Met.ofW (cc := cX2_begin) (maxL := 3) (ret := (some .int)) (by decide) rfl ?_
  intro p e s m args below meth c s₁ B hml hv
  obtain ⟨rfl, hsz, hP, hZ, hD0⟩ := hv
  have hx := B.exec
  have hb := B.bytes
  have hr := B.returns
  have hts := atoms_spec (ws := wsX2_begin) B.pre
  have hown : s.vm.findClass RX2 = some m.cls := findClass_of_methodNamed B.named
  have hlocks := B.notSynchronized
  subst hsz
  have hD := hD0.self (sz := s.heap.size)
  generalize hAe : va_A (pD cZ cI a o o' q κ ω ω' σ) s.heap.size = A at hD ⊢
  have hA : ∀ q : Nat, s.heap.size ≤ q → A q := fun q h => by rw [← hAe]; exact Or.inr h
  have hS : va_S A s.heap s.heap [] := va_S.rf
  have hP : va_P D vwCl (pD cZ cI a o o' q κ ω ω' σ) s.heap := hP
  have hl := lv_entry ([.ref a, .int (nI x), .int (nI y)]) (n := 3) (Nat.le_of_ble_eq_true rfl)
  rw [lg_entry_eq]
  generalize (lg_sl ([.ref a, .int (nI x), .int (nI y)]) ++ List.replicate (3 - (lg_sl ([.ref a, .int (nI x), .int (nI y)])).length) Slot.unset).toArray = ls at hl ⊢
  have hl : lv_has ls 3 [(0, .ref a), (1, .int (nI x)), (2, .int (nI y))] := hl
  have hin2 : ∀ w ∈ u_ws RX2 TX2 9, w ∈ wsX2_begin := by decide +kernel
  have hf26 := hts (.fieldLink RX2 26 "DoorChase" "cat" "I") (by decide +kernel)
  have hf30 := hts (.fieldLink RX2 30 "DoorChase" "mouse" "I") (by decide +kernel)
  have hf97 := hts (.fieldLink RX2 97 "DoorChase" "now" "I") (by decide +kernel)
  have hf100 := hts (.fieldLink RX2 100 "DoorChase" "cheeseEaten" "I") (by decide +kernel)
  have hf103 := hts (.fieldLink RX2 103 "DoorChase" "wasCaught" "Z") (by decide +kernel)
  have hf107 := hts (.fieldLink RX2 107 "DoorChase" "isGoingOn" "Z") (by decide +kernel)
  obtain ⟨hσ1, hσ2, hσ3, hσ4, hσ5, hσ6, hσ7⟩ := id hσ
  refine lv_aload_n hx hb dX2_begin_0 rfl (lv_at hl 0 rfl) ?_
  refine lv_iload_n hx hb dX2_begin_1 rfl (lv_at hl 1 rfl) ?_
  refine va_csv (va_runV (As := [.int (nI x)]) (rest := []) ⟨hx, hb, hml, hown, hts⟩ (c_X2_requireRoom l D cZ cI a o o' q κ ω ω' σ  x (by first | assumption | omega) (by first | assumption | omega)) (cwV 1 hts gX2_begin_X2_requireRoom rfl rfl rfl (by decide +kernel) ⟨Nat.le_of_ble_eq_true rfl, Nat.le_of_ble_eq_true rfl⟩) ⟨RdP_blind, va_recv hZ.1 hP (ci := 2) (q0 := 0) rfl rfl, RdP_start (hP.sub (ws' := pD cZ cI a o o' q κ ω ω' σ) [0, 1, 2, 3, 4, 5, 6, 7, 8, 9, 10, 11, 12, 13, 14, 15, 16, 17, 18] rfl) hZ⟩ rfl rfl hl.1 rfl (lv_room (Nat.le_of_ble_eq_true rfl)) dX2_begin_2 ⟨Nat.le_of_ble_eq_true rfl, Nat.le_of_ble_eq_true rfl⟩).run (fun _ => ?_)
  refine lv_aload_n hx hb dX2_begin_5 rfl (lv_at hl 0 rfl) ?_
  refine lv_iload_n hx hb dX2_begin_6 rfl (lv_at hl 2 rfl) ?_
  refine va_csv (va_runV (As := [.int (nI y)]) (rest := []) ⟨hx, hb, hml, hown, hts⟩ (c_X2_requireRoom l D cZ cI a o o' q κ ω ω' σ  y (by first | assumption | omega) (by first | assumption | omega)) (cwV 1 hts gX2_begin_X2_requireRoom rfl rfl rfl (by decide +kernel) ⟨Nat.le_of_ble_eq_true rfl, Nat.le_of_ble_eq_true rfl⟩) ⟨RdP_blind, va_recv hZ.1 hP (ci := 2) (q0 := 0) rfl rfl, RdP_start (hP.sub (ws' := pD cZ cI a o o' q κ ω ω' σ) [0, 1, 2, 3, 4, 5, 6, 7, 8, 9, 10, 11, 12, 13, 14, 15, 16, 17, 18] rfl) hZ⟩ rfl rfl hl.1 rfl (lv_room (Nat.le_of_ble_eq_true rfl)) dX2_begin_7 ⟨Nat.le_of_ble_eq_true rfl, Nat.le_of_ble_eq_true rfl⟩).run (fun _ => ?_)
  refine lv_iload_n hx hb dX2_begin_10 rfl (lv_at hl 1 rfl) ?_
  refine lv_iload_n hx hb dX2_begin_11 rfl (lv_at hl 2 rfl) ?_
  refine rv_ne (tgt := 25) hx hb (by omega) (by omega) dX2_begin_12 (by decide) (fun c12_5 => ?_) (fun c12_5 => ?_)
  · skip
    refine lv_aload_n hx hb dX2_begin_25 rfl (lv_at hl 0 rfl) ?_
    refine lv_iload_n hx hb dX2_begin_26 rfl (lv_at hl 1 rfl) ?_
    refine va_csv (va_runV (As := [.int (nI x)]) (rest := []) ⟨hx, hb, hml, hown, hts⟩ (c_X2_requireCatsRoom l D cZ cI a o o' q κ ω ω' σ  x (by first | assumption | omega) (by first | assumption | omega) (by first | assumption | omega)) (cwV 1 hts gX2_begin_X2_requireCatsRoom rfl rfl rfl (by decide +kernel) ⟨Nat.le_of_ble_eq_true rfl, Nat.le_of_ble_eq_true rfl⟩) ⟨RdP_blind, va_recv hZ.1 hP (ci := 2) (q0 := 0) rfl rfl, RdP_start (hP.sub (ws' := pD cZ cI a o o' q κ ω ω' σ) [0, 1, 2, 3, 4, 5, 6, 7, 8, 9, 10, 11, 12, 13, 14, 15, 16, 17, 18] rfl) hZ⟩ rfl rfl hl.1 rfl (lv_room (Nat.le_of_ble_eq_true rfl)) dX2_begin_27 ⟨Nat.le_of_ble_eq_true rfl, Nat.le_of_ble_eq_true rfl⟩).run (fun _ => ?_)
    refine lv_aload_n hx hb dX2_begin_30 rfl (lv_at hl 0 rfl) ?_
    refine lv_iload_n hx hb dX2_begin_31 rfl (lv_at hl 1 rfl) ?_
    refine va_put (D := D) (ci := 2) (v := .int (nI x)) (ty := .int) (C := RX2) (T := TX2) (N := 9) hx hb hts hin2 tyX2 tyX2_ok nmX2 hown hZ.1 hP hD hS 0 rfl rfl 6 (by decide) hf26 (fun _ h9 => h9) rfl (by decide +kernel) rfl rfl (Nat.le_of_ble_eq_true rfl) dX2_begin_32 (fun H locs hP hD hS => ?_)
    have hP : va_P D vwCl (pD cZ cI a o o' q (kn κ, ko κ, kg κ, some x, km κ, ke κ) ω ω' σ) H := hP
    have hD : va_D A (pD cZ cI a o o' q (kn κ, ko κ, kg κ, some x, km κ, ke κ) ω ω' σ) := hD
    refine lv_aload_n hx hb dX2_begin_35 rfl (lv_at hl 0 rfl) ?_
    refine lv_iload_n hx hb dX2_begin_36 rfl (lv_at hl 2 rfl) ?_
    refine va_put (D := D) (ci := 2) (v := .int (nI y)) (ty := .int) (C := RX2) (T := TX2) (N := 9) hx hb hts hin2 tyX2 tyX2_ok nmX2 hown hZ.1 hP hD hS 0 rfl rfl 7 (by decide) hf30 (fun _ h9 => h9) rfl (by decide +kernel) rfl rfl (Nat.le_of_ble_eq_true rfl) dX2_begin_37 (fun H locs hP hD hS => ?_)
    have hP : va_P D vwCl (pD cZ cI a o o' q (kn κ, ko κ, kg κ, some x, some y, ke κ) ω ω' σ) H := hP
    have hD : va_D A (pD cZ cI a o o' q (kn κ, ko κ, kg κ, some x, some y, ke κ) ω ω' σ) := hD
    refine lv_aload_n hx hb dX2_begin_40 rfl (lv_at hl 0 rfl) ?_
    refine lv_iconst (v := nI 0) hx hb dX2_begin_41 (by decide) ?_
    refine va_put (D := D) (ci := 2) (v := .int (nI 0)) (ty := .int) (C := RX2) (T := TX2) (N := 9) hx hb hts hin2 tyX2 tyX2_ok nmX2 hown hZ.1 hP hD hS 0 rfl rfl 3 (by decide) hf97 (fun _ h9 => h9) rfl (by decide +kernel) rfl rfl (Nat.le_of_ble_eq_true rfl) dX2_begin_42 (fun H locs hP hD hS => ?_)
    have hP : va_P D vwCl (pD cZ cI a o o' q (0, ko κ, kg κ, some x, some y, ke κ) ω ω' σ) H := hP
    have hD : va_D A (pD cZ cI a o o' q (0, ko κ, kg κ, some x, some y, ke κ) ω ω' σ) := hD
    refine lv_aload_n hx hb dX2_begin_45 rfl (lv_at hl 0 rfl) ?_
    refine lv_iconst (v := nI 0) hx hb dX2_begin_46 (by decide) ?_
    refine va_put (D := D) (ci := 2) (v := .int (nI 0)) (ty := .int) (C := RX2) (T := TX2) (N := 9) hx hb hts hin2 tyX2 tyX2_ok nmX2 hown hZ.1 hP hD hS 0 rfl rfl 8 (by decide) hf100 (fun _ h9 => h9) rfl (by decide +kernel) rfl rfl (Nat.le_of_ble_eq_true rfl) dX2_begin_47 (fun H locs hP hD hS => ?_)
    have hP : va_P D vwCl (pD cZ cI a o o' q (0, ko κ, kg κ, some x, some y, 0) ω ω' σ) H := hP
    have hD : va_D A (pD cZ cI a o o' q (0, ko κ, kg κ, some x, some y, 0) ω ω' σ) := hD
    refine lv_aload_n hx hb dX2_begin_50 rfl (lv_at hl 0 rfl) ?_
    refine lv_iconst (v := nI 0) hx hb dX2_begin_51 (by decide) ?_
    refine rv_top (show nI 0 = bI false from rfl) ?_
    refine va_put (D := D) (ci := 2) (v := .int (bI false)) (ty := .boolean) (C := RX2) (T := TX2) (N := 9) hx hb hts hin2 tyX2 tyX2_ok nmX2 hown hZ.1 hP hD hS 0 rfl rfl 5 (by decide) hf103 (fun _ h9 => h9) rfl (by decide +kernel) (nr_bI _) rfl (Nat.le_of_ble_eq_true rfl) dX2_begin_52 (fun H locs hP hD hS => ?_)
    have hP : va_P D vwCl (pD cZ cI a o o' q (0, ko κ, false, some x, some y, 0) ω ω' σ) H := hP
    have hD : va_D A (pD cZ cI a o o' q (0, ko κ, false, some x, some y, 0) ω ω' σ) := hD
    refine lv_aload_n hx hb dX2_begin_55 rfl (lv_at hl 0 rfl) ?_
    refine lv_iconst (v := nI 1) hx hb dX2_begin_56 (by decide) ?_
    refine rv_top (show nI 1 = bI true from rfl) ?_
    refine va_put (D := D) (ci := 2) (v := .int (bI true)) (ty := .boolean) (C := RX2) (T := TX2) (N := 9) hx hb hts hin2 tyX2 tyX2_ok nmX2 hown hZ.1 hP hD hS 0 rfl rfl 4 (by decide) hf107 (fun _ h9 => h9) rfl (by decide +kernel) (nr_bI _) rfl (Nat.le_of_ble_eq_true rfl) dX2_begin_57 (fun H locs hP hD hS => ?_)
    have hP : va_P D vwCl (pD cZ cI a o o' q (0, true, false, some x, some y, 0) ω ω' σ) H := hP
    have hD : va_D A (pD cZ cI a o o' q (0, true, false, some x, some y, 0) ω ω' σ) := hD
    refine lv_aload_n hx hb dX2_begin_60 rfl (lv_at hl 0 rfl) ?_
    refine vp_callSi (va_runV (As := []) (rest := []) ⟨hx, hb, hml, hown, hts⟩ (c_X2_turnsToCatch l D cZ cI a o o' q 0 false x y 0 ω ω' σ   (by first | assumption | omega) (by first | assumption | omega) (by first | assumption | omega) (by first | assumption | omega)) (cwV 0 hts gX2_begin_X2_turnsToCatch rfl rfl rfl (by decide +kernel) ⟨Nat.le_of_ble_eq_true rfl, Nat.le_of_ble_eq_true rfl⟩) ⟨RdP_blind, va_recv hZ.1 hP (ci := 2) (q0 := 0) rfl rfl, RdP_start (hP.sub (ws' := pD cZ cI a o o' q (0, true, false, some x, some y, 0) ω ω' σ) [0, 1, 2, 3, 4, 5, 6, 7, 8, 9, 10, 11, 12, 13, 14, 15, 16, 17, 18] rfl) hZ⟩ rfl rfl hl.1 rfl (lv_room (Nat.le_of_ble_eq_true rfl)) dX2_begin_61 ⟨Nat.le_of_ble_eq_true rfl, Nat.le_of_ble_eq_true rfl⟩).run (fun r_8 hr_9 => ?_)
    subst hr_9
    refine rv_top (show _ = iO ((oT ω) ((0 + 0) % 12) x y) from rfl) ?_
    have hP9 : va_P D vwCl (pD cZ cI a o o' q (0, true, false, some x, some y, 0) ω ω' σ) H := by exact hP
    have hD9 : va_D A (pD cZ cI a o o' q (0, true, false, some x, some y, 0) ω ω' σ) := by exact hD
    exact W.iret (v := iO ((oT ω) ((0 + 0) % 12) x y)) hx hb hr (fun t ht hW => ⟨⟨_, (), rfl, rfl, by rw [ht]; exact hP9, hD9⟩, hS.F ht⟩) hS.2.2 dX2_begin_64
  · skip
    exact absurd c12_5 hne

set_option maxHeartbeats 4000000 in
set_option maxRecDepth 100000 in
theorem c_X2_endChase (l : Launch) (D : va_G) (cZ cI : ClassId) (a : Nat) (o : Nat → Nat) (o' : Nat → Nat) (q : Nat → Nat) (κ : CS) (ω : OS) (ω' : OS) (σ : HS) (sz : Nat)   : Met l yX2_endChase wsX2_endChase ({ frames := 0, cells := 0, slots := 0, locals := 0 }) (WrP D cZ cI [.ref a] (pD cZ cI a o o' q κ ω ω' σ) sz) (WrV D (pD cZ cI a o o' q (kn κ, false, true, none, none, ke κ) ω ω' σ) (va_A (pD cZ cI a o o' q κ ω ω' σ) sz)) 0 0 (va_A (pD cZ cI a o o' q κ ω ω' σ) sz) := by
  refine Met.ofW (cc := cX2_endChase) (maxL := 1) (ret := none) (by decide) rfl ?_
  intro p e s m args below meth c s₁ B hml hv
  obtain ⟨rfl, hsz, hP, hZ, hD0⟩ := hv
  have hx := B.exec
  have hb := B.bytes
  have hr := B.returns
  have hts := atoms_spec (ws := wsX2_endChase) B.pre
  have hown : s.vm.findClass RX2 = some m.cls := findClass_of_methodNamed B.named
  have hlocks := B.notSynchronized
  subst hsz
  have hD := hD0.self (sz := s.heap.size)
  generalize hAe : va_A (pD cZ cI a o o' q κ ω ω' σ) s.heap.size = A at hD ⊢
  have hA : ∀ q : Nat, s.heap.size ≤ q → A q := fun q h => by rw [← hAe]; exact Or.inr h
  have hS : va_S A s.heap s.heap [] := va_S.rf
  have hP : va_P D vwCl (pD cZ cI a o o' q κ ω ω' σ) s.heap := hP
  have hl := lv_entry ([.ref a]) (n := 1) (Nat.le_of_ble_eq_true rfl)
  rw [lg_entry_eq]
  generalize (lg_sl ([.ref a]) ++ List.replicate (1 - (lg_sl ([.ref a])).length) Slot.unset).toArray = ls at hl ⊢
  have hl : lv_has ls 1 [(0, .ref a)] := hl
  have hin2 : ∀ w ∈ u_ws RX2 TX2 9, w ∈ wsX2_endChase := by decide +kernel
  have hf26 := hts (.fieldLink RX2 26 "DoorChase" "cat" "I") (by decide +kernel)
  have hf30 := hts (.fieldLink RX2 30 "DoorChase" "mouse" "I") (by decide +kernel)
  have hf103 := hts (.fieldLink RX2 103 "DoorChase" "wasCaught" "Z") (by decide +kernel)
  have hf107 := hts (.fieldLink RX2 107 "DoorChase" "isGoingOn" "Z") (by decide +kernel)
  refine lv_aload_n hx hb dX2_endChase_0 rfl (lv_at hl 0 rfl) ?_
  refine lv_iconst (v := nI 0) hx hb dX2_endChase_1 (by decide) ?_
  refine rv_top (show nI 0 = bI false from rfl) ?_
  refine va_put (D := D) (ci := 2) (v := .int (bI false)) (ty := .boolean) (C := RX2) (T := TX2) (N := 9) hx hb hts hin2 tyX2 tyX2_ok nmX2 hown hZ.1 hP hD hS 0 rfl rfl 4 (by decide) hf107 (fun _ h9 => h9) rfl (by decide +kernel) (nr_bI _) rfl (Nat.le_of_ble_eq_true rfl) dX2_endChase_2 (fun H locs hP hD hS => ?_)
  have hP : va_P D vwCl (pD cZ cI a o o' q (kn κ, false, kg κ, kc κ, km κ, ke κ) ω ω' σ) H := hP
  have hD : va_D A (pD cZ cI a o o' q (kn κ, false, kg κ, kc κ, km κ, ke κ) ω ω' σ) := hD
  refine lv_aload_n hx hb dX2_endChase_5 rfl (lv_at hl 0 rfl) ?_
  refine lv_iconst (v := nI 1) hx hb dX2_endChase_6 (by decide) ?_
  refine rv_top (show nI 1 = bI true from rfl) ?_
  refine va_put (D := D) (ci := 2) (v := .int (bI true)) (ty := .boolean) (C := RX2) (T := TX2) (N := 9) hx hb hts hin2 tyX2 tyX2_ok nmX2 hown hZ.1 hP hD hS 0 rfl rfl 5 (by decide) hf103 (fun _ h9 => h9) rfl (by decide +kernel) (nr_bI _) rfl (Nat.le_of_ble_eq_true rfl) dX2_endChase_7 (fun H locs hP hD hS => ?_)
  have hP : va_P D vwCl (pD cZ cI a o o' q (kn κ, false, true, kc κ, km κ, ke κ) ω ω' σ) H := hP
  have hD : va_D A (pD cZ cI a o o' q (kn κ, false, true, kc κ, km κ, ke κ) ω ω' σ) := hD
  refine lv_aload_n hx hb dX2_endChase_10 rfl (lv_at hl 0 rfl) ?_
  refine lv_iconst (v := (-1)) hx hb dX2_endChase_11 (by decide) ?_
  refine va_put (D := D) (ci := 2) (v := .int ((-1))) (ty := .int) (C := RX2) (T := TX2) (N := 9) hx hb hts hin2 tyX2 tyX2_ok nmX2 hown hZ.1 hP hD hS 0 rfl rfl 6 (by decide) hf26 (fun _ h9 => h9) rfl (by decide +kernel) rfl rfl (Nat.le_of_ble_eq_true rfl) dX2_endChase_12 (fun H locs hP hD hS => ?_)
  have hP : va_P D vwCl (pD cZ cI a o o' q (kn κ, false, true, none, km κ, ke κ) ω ω' σ) H := hP
  have hD : va_D A (pD cZ cI a o o' q (kn κ, false, true, none, km κ, ke κ) ω ω' σ) := hD
  refine lv_aload_n hx hb dX2_endChase_15 rfl (lv_at hl 0 rfl) ?_
  refine lv_iconst (v := (-1)) hx hb dX2_endChase_16 (by decide) ?_
  refine va_put (D := D) (ci := 2) (v := .int ((-1))) (ty := .int) (C := RX2) (T := TX2) (N := 9) hx hb hts hin2 tyX2 tyX2_ok nmX2 hown hZ.1 hP hD hS 0 rfl rfl 7 (by decide) hf30 (fun _ h9 => h9) rfl (by decide +kernel) rfl rfl (Nat.le_of_ble_eq_true rfl) dX2_endChase_17 (fun H locs hP hD hS => ?_)
  have hP : va_P D vwCl (pD cZ cI a o o' q (kn κ, false, true, none, none, ke κ) ω ω' σ) H := hP
  have hD : va_D A (pD cZ cI a o o' q (kn κ, false, true, none, none, ke κ) ω ω' σ) := hD
  have hP9 : va_P D vwCl (pD cZ cI a o o' q (kn κ, false, true, none, none, ke κ) ω ω' σ) H := by exact hP
  have hD9 : va_D A (pD cZ cI a o o' q (kn κ, false, true, none, none, ke κ) ω ω' σ) := by exact hD
  exact W.vret hx hb hr (fun t ht hW => ⟨⟨(), rfl, trivial, by rw [ht]; exact hP9, hD9⟩, hS.F ht⟩) hS.2.2 dX2_endChase_20

set_option maxHeartbeats 4000000 in
set_option maxRecDepth 100000 in
theorem c_X2_eatIn (l : Launch) (D : va_G) (cZ cI : ClassId) (a : Nat) (o : Nat → Nat) (o' : Nat → Nat) (q : Nat → Nat) (κ : CS) (ω : OS) (ω' : OS) (σ : HS) (sz : Nat) (r : Nat) (hσ : zOk σ) (hr8 : r < zN σ) : Met l yX2_eatIn wsX2_eatIn ({ frames := 0, cells := 0, slots := 0, locals := 0 }) (WrP D cZ cI [.ref a, .int (nI r)] (pD cZ cI a o o' q κ ω ω' σ) sz) (WrV D (pD cZ cI a o o' q (kn κ, ko κ, kg κ, kc κ, km κ, eatE σ r (ke κ)) ω ω' (zN σ, zM σ, zS σ, eatC σ r, zF σ, zG σ, zP σ, zT σ, zL σ)) (va_A (pD cZ cI a o o' q κ ω ω' σ) sz)) 0 0 (va_A (pD cZ cI a o o' q κ ω ω' σ) sz) := by
  refine Met.ofW (cc := cX2_eatIn) (maxL := 2) (ret := none) (by decide) rfl ?_
  intro p e s m args below meth c s₁ B hml hv
  obtain ⟨rfl, hsz, hP, hZ, hD0⟩ := hv
  have hx := B.exec
  have hb := B.bytes
  have hr := B.returns
  have hts := atoms_spec (ws := wsX2_eatIn) B.pre
  have hown : s.vm.findClass RX2 = some m.cls := findClass_of_methodNamed B.named
  have hlocks := B.notSynchronized
  subst hsz
  have hD := hD0.self (sz := s.heap.size)
  generalize hAe : va_A (pD cZ cI a o o' q κ ω ω' σ) s.heap.size = A at hD ⊢
  have hA : ∀ q : Nat, s.heap.size ≤ q → A q := fun q h => by rw [← hAe]; exact Or.inr h
  have hS : va_S A s.heap s.heap [] := va_S.rf
  have hP : va_P D vwCl (pD cZ cI a o o' q κ ω ω' σ) s.heap := hP
  have hl := lv_entry ([.ref a, .int (nI r)]) (n := 2) (Nat.le_of_ble_eq_true rfl)
  rw [lg_entry_eq]
  generalize (lg_sl ([.ref a, .int (nI r)]) ++ List.replicate (2 - (lg_sl ([.ref a, .int (nI r)])).length) Slot.unset).toArray = ls at hl ⊢
  have hl : lv_has ls 2 [(0, .ref a), (1, .int (nI r))] := hl
  have hin2 : ∀ w ∈ u_ws RX2 TX2 9, w ∈ wsX2_eatIn := by decide +kernel
  have hin0 : ∀ w ∈ u_ws RX0 TX0 9, w ∈ wsX2_eatIn := by decide +kernel
  have hf10 := hts (.fieldLink RX2 10 "DoorChase" "house" "LDoorChase$House;") (by decide +kernel)
  have hf86 := hts (.fieldLink RX2 86 "DoorChase$House" "cheese" "[I") (by decide +kernel)
  have hf100 := hts (.fieldLink RX2 100 "DoorChase" "cheeseEaten" "I") (by decide +kernel)
  obtain ⟨hσ1, hσ2, hσ3, hσ4, hσ5, hσ6, hσ7⟩ := id hσ
  have hc9 := hσ7 r
  refine lv_aload_n hx hb dX2_eatIn_0 rfl (lv_at hl 0 rfl) ?_
  refine va_get (D := D) (ci := 2) (v := .ref (q 0)) (C := RX2) (T := TX2) (N := 9) hx hb hts hin2 hown hZ.1 hP 0 rfl rfl 0 (by decide) hf10 (fun _ h9 => h9) rfl dX2_eatIn_1 ?_
  refine va_get (D := D) (ci := 0) (v := .ref (q 2)) (C := RX0) (T := TX0) (N := 9) hx hb hts hin0 hown hZ.1 hP 11 rfl rfl 2 (by decide) hf86 (fun _ h9 => h9) rfl dX2_eatIn_4 ?_
  refine lv_iload_n hx hb dX2_eatIn_7 rfl (lv_at hl 1 rfl) ?_
  refine rv_iald hx hb hZ.1 hP 13 1 rfl rfl (r := r) (by omega) (by decide) (v := nI ((zC σ) r)) rfl dX2_eatIn_8 ?_
  refine rv_ifleN (tgt := 35) hx hb (by omega) dX2_eatIn_9 (by decide) (fun c9_1 => ?_) (fun c9_1 => ?_)
  · skip
    have hP9 : va_P D vwCl (pD cZ cI a o o' q (kn κ, ko κ, kg κ, kc κ, km κ, eatE σ r (ke κ)) ω ω' (zN σ, zM σ, zS σ, eatC σ r, zF σ, zG σ, zP σ, zT σ, zL σ)) s.heap := by (first | (rw [eatC, eatE, if_pos (by assumption), if_pos (by assumption)]; exact hP) | (rw [eatC, eatE, if_neg (by assumption), if_neg (by assumption)]; exact hP))
    have hD9 : va_D A (pD cZ cI a o o' q (kn κ, ko κ, kg κ, kc κ, km κ, eatE σ r (ke κ)) ω ω' (zN σ, zM σ, zS σ, eatC σ r, zF σ, zG σ, zP σ, zT σ, zL σ)) := by (first | (rw [eatC, eatE, if_pos (by assumption), if_pos (by assumption)]; exact hD) | (rw [eatC, eatE, if_neg (by assumption), if_neg (by assumption)]; exact hD))
    exact W.vret hx hb hr (fun t ht hW => ⟨⟨(), rfl, trivial, by rw [ht]; exact hP9, hD9⟩, hS.F ht⟩) hS.2.2 dX2_eatIn_35
  · skip
    refine lv_aload_n hx hb dX2_eatIn_12 rfl (lv_at hl 0 rfl) ?_
    refine va_get (D := D) (ci := 2) (v := .ref (q 0)) (C := RX2) (T := TX2) (N := 9) hx hb hts hin2 hown hZ.1 hP 0 rfl rfl 0 (by decide) hf10 (fun _ h9 => h9) rfl dX2_eatIn_13 ?_
    refine va_get (D := D) (ci := 0) (v := .ref (q 2)) (C := RX0) (T := TX0) (N := 9) hx hb hts hin0 hown hZ.1 hP 11 rfl rfl 2 (by decide) hf86 (fun _ h9 => h9) rfl dX2_eatIn_16 ?_
    refine lv_iload_n hx hb dX2_eatIn_19 rfl (lv_at hl 1 rfl) ?_
    refine lv_dup2_11 hx hb dX2_eatIn_20 rfl rfl ?_
    refine rv_iald hx hb hZ.1 hP 13 1 rfl rfl (r := r) (by omega) (by decide) (v := nI ((zC σ) r)) rfl dX2_eatIn_21 ?_
    refine lv_iconst (v := nI 1) hx hb dX2_eatIn_22 (by decide) ?_
    refine rv_sub hx hb (by omega) dX2_eatIn_23 ?_
    refine rv_iast hx hb hZ.1 hP hD hS 13 1 rfl rfl (r := r) (by omega) (by decide) (encN_up _ _ _) dX2_eatIn_24 (fun H locs hP hD hS => ?_)
    have hP : va_P D vwCl (pD cZ cI a o o' q κ ω ω' (zN σ, zM σ, zS σ, va_up (zC σ) r ((zC σ) r - 1), zF σ, zG σ, zP σ, zT σ, zL σ)) H := hP
    have hD : va_D A (pD cZ cI a o o' q κ ω ω' (zN σ, zM σ, zS σ, va_up (zC σ) r ((zC σ) r - 1), zF σ, zG σ, zP σ, zT σ, zL σ)) := hD
    refine lv_aload_n hx hb dX2_eatIn_25 rfl (lv_at hl 0 rfl) ?_
    refine lv_dup hx hb dX2_eatIn_26 rfl ?_
    refine va_get (D := D) (ci := 2) (v := .int (nI (ke κ))) (C := RX2) (T := TX2) (N := 9) hx hb hts hin2 hown hZ.1 hP 0 rfl rfl 8 (by decide) hf100 (fun _ h9 => h9) rfl dX2_eatIn_27 ?_
    refine lv_iconst (v := nI 1) hx hb dX2_eatIn_30 (by decide) ?_
    refine rv_add hx hb dX2_eatIn_31 ?_
    refine va_put (D := D) (ci := 2) (v := .int (nI (ke κ + 1))) (ty := .int) (C := RX2) (T := TX2) (N := 9) hx hb hts hin2 tyX2 tyX2_ok nmX2 hown hZ.1 hP hD hS 0 rfl rfl 8 (by decide) hf100 (fun _ h9 => h9) rfl (by decide +kernel) rfl rfl (Nat.le_of_ble_eq_true rfl) dX2_eatIn_32 (fun H locs hP hD hS => ?_)
    have hP : va_P D vwCl (pD cZ cI a o o' q (kn κ, ko κ, kg κ, kc κ, km κ, ke κ + 1) ω ω' (zN σ, zM σ, zS σ, va_up (zC σ) r ((zC σ) r - 1), zF σ, zG σ, zP σ, zT σ, zL σ)) H := hP
    have hD : va_D A (pD cZ cI a o o' q (kn κ, ko κ, kg κ, kc κ, km κ, ke κ + 1) ω ω' (zN σ, zM σ, zS σ, va_up (zC σ) r ((zC σ) r - 1), zF σ, zG σ, zP σ, zT σ, zL σ)) := hD
    have hP9 : va_P D vwCl (pD cZ cI a o o' q (kn κ, ko κ, kg κ, kc κ, km κ, eatE σ r (ke κ)) ω ω' (zN σ, zM σ, zS σ, eatC σ r, zF σ, zG σ, zP σ, zT σ, zL σ)) H := by (first | (rw [eatC, eatE, if_pos (by assumption), if_pos (by assumption)]; exact hP) | (rw [eatC, eatE, if_neg (by assumption), if_neg (by assumption)]; exact hP))
    have hD9 : va_D A (pD cZ cI a o o' q (kn κ, ko κ, kg κ, kc κ, km κ, eatE σ r (ke κ)) ω ω' (zN σ, zM σ, zS σ, eatC σ r, zF σ, zG σ, zP σ, zT σ, zL σ)) := by (first | (rw [eatC, eatE, if_pos (by assumption), if_pos (by assumption)]; exact hD) | (rw [eatC, eatE, if_neg (by assumption), if_neg (by assumption)]; exact hD))
    exact W.vret hx hb hr (fun t ht hW => ⟨⟨(), rfl, trivial, by rw [ht]; exact hP9, hD9⟩, hS.F ht⟩) hS.2.2 dX2_eatIn_35

set_option maxHeartbeats 4000000 in
set_option maxRecDepth 100000 in
theorem c_X2_moveTo (l : Launch) (D : va_G) (cZ cI : ClassId) (a : Nat) (o : Nat → Nat) (o' : Nat → Nat) (q : Nat → Nat) (nw : Nat) (cg : Bool) (ct : Nat) (mo : Nat) (ea : Nat) (ω : OS) (ω' : OS) (σ : HS) (sz : Nat) (r : Nat) (hσ : zOk σ) (hr8 : r < zN σ) (hct : ct < zN σ) (hmo : mo < zN σ) (hnw : nw < 2 ^ 30) : Met l yX2_moveTo wsX2_moveTo ({ frames := 2, cells := 0, slots := 0, locals := 40 }) (WrP D cZ cI [.ref a, .int (nI r)] (pD cZ cI a o o' q (nw, true, cg, some ct, some mo, ea) ω ω' σ) sz) (WrV D (pD cZ cI a o o' q (mvK σ nw cg ct mo ea r) ω ω' (zN σ, zM σ, zS σ, mvC σ nw ct mo r, zF σ, zG σ, zP σ, zT σ, zL σ)) (va_A (pD cZ cI a o o' q (nw, true, cg, some ct, some mo, ea) ω ω' σ) sz)) 0 0 (va_A (pD cZ cI a o o' q (nw, true, cg, some ct, some mo, ea) ω ω' σ) sz) := by
  refine Met.ofW (cc := cX2_moveTo) (maxL := 3) (ret := none) (by decide) rfl ?_
  intro p e s m args below meth c s₁ B hml hv
  obtain ⟨rfl, hsz, hP, hZ, hD0⟩ := hv
  have hx := B.exec
  have hb := B.bytes
  have hr := B.returns
  have hts := atoms_spec (ws := wsX2_moveTo) B.pre
  have hown : s.vm.findClass RX2 = some m.cls := findClass_of_methodNamed B.named
  have hlocks := B.notSynchronized
  subst hsz
  have hD := hD0.self (sz := s.heap.size)
  generalize hAe : va_A (pD cZ cI a o o' q (nw, true, cg, some ct, some mo, ea) ω ω' σ) s.heap.size = A at hD ⊢
  have hA : ∀ q : Nat, s.heap.size ≤ q → A q := fun q h => by rw [← hAe]; exact Or.inr h
  have hS : va_S A s.heap s.heap [] := va_S.rf
  have hP : va_P D vwCl (pD cZ cI a o o' q (nw, true, cg, some ct, some mo, ea) ω ω' σ) s.heap := hP
  have hl := lv_entry ([.ref a, .int (nI r)]) (n := 3) (Nat.le_of_ble_eq_true rfl)
  rw [lg_entry_eq]
  generalize (lg_sl ([.ref a, .int (nI r)]) ++ List.replicate (3 - (lg_sl ([.ref a, .int (nI r)])).length) Slot.unset).toArray = ls at hl ⊢
  have hl : lv_has ls 3 [(0, .ref a), (1, .int (nI r))] := hl
  have hin2 : ∀ w ∈ u_ws RX2 TX2 9, w ∈ wsX2_moveTo := by decide +kernel
  have hf26 := hts (.fieldLink RX2 26 "DoorChase" "cat" "I") (by decide +kernel)
  have hf30 := hts (.fieldLink RX2 30 "DoorChase" "mouse" "I") (by decide +kernel)
  have hf97 := hts (.fieldLink RX2 97 "DoorChase" "now" "I") (by decide +kernel)
  obtain ⟨hσ1, hσ2, hσ3, hσ4, hσ5, hσ6, hσ7⟩ := id hσ
  refine lv_aload_n hx hb dX2_moveTo_0 rfl (lv_at hl 0 rfl) ?_
  refine vp_callSi (va_runV (As := []) (rest := []) ⟨hx, hb, hml, hown, hts⟩ (c_X2_isCatsTurn l D cZ cI a o o' q (nw, true, cg, some ct, some mo, ea) ω ω' σ   (by first | assumption | omega)) (cwV 0 hts gX2_moveTo_X2_isCatsTurn rfl rfl rfl (by decide +kernel) ⟨Nat.le_of_ble_eq_true rfl, Nat.le_of_ble_eq_true rfl⟩) ⟨RdP_blind, va_recv hZ.1 hP (ci := 2) (q0 := 0) rfl rfl, RdP_start (hP.sub (ws' := pD cZ cI a o o' q (nw, true, cg, some ct, some mo, ea) ω ω' σ) [0, 1, 2, 3, 4, 5, 6, 7, 8, 9, 10, 11, 12, 13, 14, 15, 16, 17, 18] rfl) hZ⟩ rfl rfl hl.1 rfl (lv_room (Nat.le_of_ble_eq_true rfl)) dX2_moveTo_1 ⟨Nat.le_of_ble_eq_true rfl, Nat.le_of_ble_eq_true rfl⟩).run (fun r_1 hr_2 => ?_)
  subst hr_2
  refine rv_top (show _ = bI (isC (nw)) from rfl) ?_
  refine rv_ifneB (tgt := 11) hx hb dX2_moveTo_4 (by decide) (fun c4_3 => ?_) (fun c4_3 => ?_)
  · skip
    refine lv_iconst (v := nI 0) hx hb dX2_moveTo_11 (by decide) ?_
    refine rv_top (show nI 0 = bI false from rfl) ?_
    refine lv_istore_n (lv' := [(2, .int (bI false)), (0, .ref a), (1, .int (nI r))]) hx hb dX2_moveTo_12 rfl hl (by decide) rfl (fun ls hl => ?_)
    refine lv_iload_n hx hb dX2_moveTo_13 rfl (lv_at hl 0 rfl) ?_
    refine rv_ifeqB (tgt := 25) hx hb dX2_moveTo_14 (by decide) (fun c14_4 => ?_) (fun c14_4 => ?_)
    · skip
      refine lv_aload_n hx hb dX2_moveTo_25 rfl (lv_at hl 1 rfl) ?_
      refine lv_iload_n hx hb dX2_moveTo_26 rfl (lv_at hl 2 rfl) ?_
      refine va_put (D := D) (ci := 2) (v := .int (nI r)) (ty := .int) (C := RX2) (T := TX2) (N := 9) hx hb hts hin2 tyX2 tyX2_ok nmX2 hown hZ.1 hP hD hS 0 rfl rfl 6 (by decide) hf26 (fun _ h9 => h9) rfl (by decide +kernel) rfl rfl (Nat.le_of_ble_eq_true rfl) dX2_moveTo_27 (fun H locs hP hD hS => ?_)
      have hP : va_P D vwCl (pD cZ cI a o o' q (nw, true, cg, some r, some mo, ea) ω ω' σ) H := hP
      have hD : va_D A (pD cZ cI a o o' q (nw, true, cg, some r, some mo, ea) ω ω' σ) := hD
      refine lv_aload_n hx hb dX2_moveTo_30 rfl (lv_at hl 1 rfl) ?_
      refine va_get (D := D) (ci := 2) (v := .int (nI r)) (C := RX2) (T := TX2) (N := 9) hx hb hts hin2 hown hZ.1 hP 0 rfl rfl 6 (by decide) hf26 (fun _ h9 => h9) rfl dX2_moveTo_31 ?_
      refine lv_aload_n hx hb dX2_moveTo_34 rfl (lv_at hl 1 rfl) ?_
      refine va_get (D := D) (ci := 2) (v := .int (nI mo)) (C := RX2) (T := TX2) (N := 9) hx hb hts hin2 hown hZ.1 hP 0 rfl rfl 7 (by decide) hf30 (fun _ h9 => h9) rfl dX2_moveTo_35 ?_
      refine rv_ne (tgt := 48) hx hb (by omega) (by omega) dX2_moveTo_38 (by decide) (fun c38_5 => ?_) (fun c38_5 => ?_)
      · skip
        refine lv_iload_n hx hb dX2_moveTo_48 rfl (lv_at hl 0 rfl) ?_
        refine rv_ifeqB (tgt := 57) hx hb dX2_moveTo_49 (by decide) (fun c49_6 => ?_) (fun c49_6 => ?_)
        · skip
          refine lv_aload_n hx hb dX2_moveTo_57 rfl (lv_at hl 1 rfl) ?_
          refine lv_dup hx hb dX2_moveTo_58 rfl ?_
          refine va_get (D := D) (ci := 2) (v := .int (nI nw)) (C := RX2) (T := TX2) (N := 9) hx hb hts hin2 hown hZ.1 hP 0 rfl rfl 3 (by decide) hf97 (fun _ h9 => h9) rfl dX2_moveTo_59 ?_
          refine lv_iconst (v := nI 1) hx hb dX2_moveTo_62 (by decide) ?_
          refine rv_add hx hb dX2_moveTo_63 ?_
          refine va_put (D := D) (ci := 2) (v := .int (nI (nw + 1))) (ty := .int) (C := RX2) (T := TX2) (N := 9) hx hb hts hin2 tyX2 tyX2_ok nmX2 hown hZ.1 hP hD hS 0 rfl rfl 3 (by decide) hf97 (fun _ h9 => h9) rfl (by decide +kernel) rfl rfl (Nat.le_of_ble_eq_true rfl) dX2_moveTo_64 (fun H locs hP hD hS => ?_)
          have hP : va_P D vwCl (pD cZ cI a o o' q (nw + 1, true, cg, some r, some mo, ea) ω ω' σ) H := hP
          have hD : va_D A (pD cZ cI a o o' q (nw + 1, true, cg, some r, some mo, ea) ω ω' σ) := hD
          have hP9 : va_P D vwCl (pD cZ cI a o o' q (mvK σ nw cg ct mo ea r) ω ω' (zN σ, zM σ, zS σ, mvC σ nw ct mo r, zF σ, zG σ, zP σ, zT σ, zL σ)) H := by (rw [show mvK σ nw cg ct mo ea r = (nw + 1, true, cg, some r, some mo, ea) from by simp [mvK, mvCat, mvMou, c4_3, c14_4, c38_5, c49_6], show mvC σ nw ct mo r = zC σ from by simp [mvC, mvCat, mvMou, c4_3, c14_4, c38_5, c49_6]]; exact hP)
          have hD9 : va_D A (pD cZ cI a o o' q (mvK σ nw cg ct mo ea r) ω ω' (zN σ, zM σ, zS σ, mvC σ nw ct mo r, zF σ, zG σ, zP σ, zT σ, zL σ)) := by (rw [show mvK σ nw cg ct mo ea r = (nw + 1, true, cg, some r, some mo, ea) from by simp [mvK, mvCat, mvMou, c4_3, c14_4, c38_5, c49_6], show mvC σ nw ct mo r = zC σ from by simp [mvC, mvCat, mvMou, c4_3, c14_4, c38_5, c49_6]]; exact hD)
          exact W.vret hx hb hr (fun t ht hW => ⟨⟨(), rfl, trivial, by rw [ht]; exact hP9, hD9⟩, hS.F ht⟩) hS.2.2 dX2_moveTo_67
        · skip
          exact Bool.noConfusion c49_6
      · skip
        refine lv_aload_n hx hb dX2_moveTo_41 rfl (lv_at hl 1 rfl) ?_
        have hFc := va_free (wc := pD cZ cI a o o' q (nw, true, cg, some r, some mo, ea) ω ω' σ) hD hS hA [0, 1, 2, 3, 4, 5, 6, 7, 8, 9, 10, 11, 12, 13, 14, 15, 16, 17, 18] rfl
        refine va_callv (va_runV (As := []) (rest := []) ⟨hx, hb, hml, hown, hts⟩ (c_X2_endChase l D cZ cI a o o' q (nw, true, cg, some r, some mo, ea) ω ω' σ H.size  ) (cwV 0 hts gX2_moveTo_X2_endChase rfl rfl rfl (by decide +kernel) ⟨Nat.le_of_ble_eq_true rfl, Nat.le_of_ble_eq_true rfl⟩) ⟨WrP_blind, va_recv hZ.1 hP (ci := 2) (q0 := 0) rfl rfl, WrP_start hP hD hZ⟩ rfl rfl hl.1 rfl (lv_room (Nat.le_of_ble_eq_true rfl)) dX2_moveTo_42 ⟨Nat.le_of_ble_eq_true rfl, Nat.le_of_ble_eq_true rfl⟩) hS (fun q _ h => hFc q h) hFc (fun u t H1 locs ht hvm hw hB hz1 hk1 hS => ?_)
        obtain ⟨hP, hD⟩ := hB
        rw [ht] at hP
        replace hD := hD.weaken (fun _ _ _ h => hFc _ h)
        generalize H1 = H at hP hS ⊢
        have hP : va_P D vwCl (pD cZ cI a o o' q (nw, false, true, none, none, ea) ω ω' σ) H := hP
        have hD : va_D A (pD cZ cI a o o' q (nw, false, true, none, none, ea) ω ω' σ) := hD
        refine lv_goto (tgt := 57) hx hb dX2_moveTo_45 (by decide) ?_
        refine lv_aload_n hx hb dX2_moveTo_57 rfl (lv_at hl 1 rfl) ?_
        refine lv_dup hx hb dX2_moveTo_58 rfl ?_
        refine va_get (D := D) (ci := 2) (v := .int (nI nw)) (C := RX2) (T := TX2) (N := 9) hx hb hts hin2 hown hZ.1 hP 0 rfl rfl 3 (by decide) hf97 (fun _ h9 => h9) rfl dX2_moveTo_59 ?_
        refine lv_iconst (v := nI 1) hx hb dX2_moveTo_62 (by decide) ?_
        refine rv_add hx hb dX2_moveTo_63 ?_
        refine va_put (D := D) (ci := 2) (v := .int (nI (nw + 1))) (ty := .int) (C := RX2) (T := TX2) (N := 9) hx hb hts hin2 tyX2 tyX2_ok nmX2 hown hZ.1 hP hD hS 0 rfl rfl 3 (by decide) hf97 (fun _ h9 => h9) rfl (by decide +kernel) rfl rfl (Nat.le_of_ble_eq_true rfl) dX2_moveTo_64 (fun H locs hP hD hS => ?_)
        have hP : va_P D vwCl (pD cZ cI a o o' q (nw + 1, false, true, none, none, ea) ω ω' σ) H := hP
        have hD : va_D A (pD cZ cI a o o' q (nw + 1, false, true, none, none, ea) ω ω' σ) := hD
        have hP9 : va_P D vwCl (pD cZ cI a o o' q (mvK σ nw cg ct mo ea r) ω ω' (zN σ, zM σ, zS σ, mvC σ nw ct mo r, zF σ, zG σ, zP σ, zT σ, zL σ)) H := by (rw [show mvK σ nw cg ct mo ea r = (nw + 1, false, true, none, none, ea) from by simp [mvK, mvCat, mvMou, c4_3, c14_4, c38_5], show mvC σ nw ct mo r = zC σ from by simp [mvC, mvCat, mvMou, c4_3, c14_4, c38_5]]; exact hP)
        have hD9 : va_D A (pD cZ cI a o o' q (mvK σ nw cg ct mo ea r) ω ω' (zN σ, zM σ, zS σ, mvC σ nw ct mo r, zF σ, zG σ, zP σ, zT σ, zL σ)) := by (rw [show mvK σ nw cg ct mo ea r = (nw + 1, false, true, none, none, ea) from by simp [mvK, mvCat, mvMou, c4_3, c14_4, c38_5], show mvC σ nw ct mo r = zC σ from by simp [mvC, mvCat, mvMou, c4_3, c14_4, c38_5]]; exact hD)
        exact W.vret hx hb hr (fun t ht hW => ⟨⟨(), rfl, trivial, by rw [ht]; exact hP9, hD9⟩, hS.F ht⟩) hS.2.2 dX2_moveTo_67
    · skip
      exact Bool.noConfusion c14_4
  · skip
    refine lv_iconst (v := nI 1) hx hb dX2_moveTo_7 (by decide) ?_
    refine rv_top (show nI 1 = bI true from rfl) ?_
    refine lv_goto (tgt := 12) hx hb dX2_moveTo_8 (by decide) ?_
    refine lv_istore_n (lv' := [(2, .int (bI true)), (0, .ref a), (1, .int (nI r))]) hx hb dX2_moveTo_12 rfl hl (by decide) rfl (fun ls hl => ?_)
    refine lv_iload_n hx hb dX2_moveTo_13 rfl (lv_at hl 0 rfl) ?_
    refine rv_ifeqB (tgt := 25) hx hb dX2_moveTo_14 (by decide) (fun c14_7 => ?_) (fun c14_7 => ?_)
    · skip
      exact Bool.noConfusion c14_7
    · skip
      refine lv_aload_n hx hb dX2_moveTo_17 rfl (lv_at hl 1 rfl) ?_
      refine lv_iload_n hx hb dX2_moveTo_18 rfl (lv_at hl 2 rfl) ?_
      refine va_put (D := D) (ci := 2) (v := .int (nI r)) (ty := .int) (C := RX2) (T := TX2) (N := 9) hx hb hts hin2 tyX2 tyX2_ok nmX2 hown hZ.1 hP hD hS 0 rfl rfl 7 (by decide) hf30 (fun _ h9 => h9) rfl (by decide +kernel) rfl rfl (Nat.le_of_ble_eq_true rfl) dX2_moveTo_19 (fun H locs hP hD hS => ?_)
      have hP : va_P D vwCl (pD cZ cI a o o' q (nw, true, cg, some ct, some r, ea) ω ω' σ) H := hP
      have hD : va_D A (pD cZ cI a o o' q (nw, true, cg, some ct, some r, ea) ω ω' σ) := hD
      refine lv_goto (tgt := 30) hx hb dX2_moveTo_22 (by decide) ?_
      refine lv_aload_n hx hb dX2_moveTo_30 rfl (lv_at hl 1 rfl) ?_
      refine va_get (D := D) (ci := 2) (v := .int (nI ct)) (C := RX2) (T := TX2) (N := 9) hx hb hts hin2 hown hZ.1 hP 0 rfl rfl 6 (by decide) hf26 (fun _ h9 => h9) rfl dX2_moveTo_31 ?_
      refine lv_aload_n hx hb dX2_moveTo_34 rfl (lv_at hl 1 rfl) ?_
      refine va_get (D := D) (ci := 2) (v := .int (nI r)) (C := RX2) (T := TX2) (N := 9) hx hb hts hin2 hown hZ.1 hP 0 rfl rfl 7 (by decide) hf30 (fun _ h9 => h9) rfl dX2_moveTo_35 ?_
      refine rv_ne (tgt := 48) hx hb (by omega) (by omega) dX2_moveTo_38 (by decide) (fun c38_8 => ?_) (fun c38_8 => ?_)
      · skip
        refine lv_iload_n hx hb dX2_moveTo_48 rfl (lv_at hl 0 rfl) ?_
        refine rv_ifeqB (tgt := 57) hx hb dX2_moveTo_49 (by decide) (fun c49_9 => ?_) (fun c49_9 => ?_)
        · skip
          exact Bool.noConfusion c49_9
        · skip
          refine lv_aload_n hx hb dX2_moveTo_52 rfl (lv_at hl 1 rfl) ?_
          refine lv_iload_n hx hb dX2_moveTo_53 rfl (lv_at hl 2 rfl) ?_
          have hFc := va_free (wc := pD cZ cI a o o' q (nw, true, cg, some ct, some r, ea) ω ω' σ) hD hS hA [0, 1, 2, 3, 4, 5, 6, 7, 8, 9, 10, 11, 12, 13, 14, 15, 16, 17, 18] rfl
          refine va_callv (va_runV (As := [.int (nI r)]) (rest := []) ⟨hx, hb, hml, hown, hts⟩ (c_X2_eatIn l D cZ cI a o o' q (nw, true, cg, some ct, some r, ea) ω ω' σ H.size r (by first | assumption | omega) (by first | assumption | omega)) (cwV 1 hts gX2_moveTo_X2_eatIn rfl rfl rfl (by decide +kernel) ⟨Nat.le_of_ble_eq_true rfl, Nat.le_of_ble_eq_true rfl⟩) ⟨WrP_blind, va_recv hZ.1 hP (ci := 2) (q0 := 0) rfl rfl, WrP_start hP hD hZ⟩ rfl rfl hl.1 rfl (lv_room (Nat.le_of_ble_eq_true rfl)) dX2_moveTo_54 ⟨Nat.le_of_ble_eq_true rfl, Nat.le_of_ble_eq_true rfl⟩) hS (fun q _ h => hFc q h) hFc (fun u t H1 locs ht hvm hw hB hz1 hk1 hS => ?_)
          obtain ⟨hP, hD⟩ := hB
          rw [ht] at hP
          replace hD := hD.weaken (fun _ _ _ h => hFc _ h)
          generalize H1 = H at hP hS ⊢
          have hP : va_P D vwCl (pD cZ cI a o o' q (nw, true, cg, some ct, some r, eatE σ r (ea)) ω ω' (zN σ, zM σ, zS σ, eatC σ r, zF σ, zG σ, zP σ, zT σ, zL σ)) H := hP
          have hD : va_D A (pD cZ cI a o o' q (nw, true, cg, some ct, some r, eatE σ r (ea)) ω ω' (zN σ, zM σ, zS σ, eatC σ r, zF σ, zG σ, zP σ, zT σ, zL σ)) := hD
          refine lv_aload_n hx hb dX2_moveTo_57 rfl (lv_at hl 1 rfl) ?_
          refine lv_dup hx hb dX2_moveTo_58 rfl ?_
          refine va_get (D := D) (ci := 2) (v := .int (nI nw)) (C := RX2) (T := TX2) (N := 9) hx hb hts hin2 hown hZ.1 hP 0 rfl rfl 3 (by decide) hf97 (fun _ h9 => h9) rfl dX2_moveTo_59 ?_
          refine lv_iconst (v := nI 1) hx hb dX2_moveTo_62 (by decide) ?_
          refine rv_add hx hb dX2_moveTo_63 ?_
          refine va_put (D := D) (ci := 2) (v := .int (nI (nw + 1))) (ty := .int) (C := RX2) (T := TX2) (N := 9) hx hb hts hin2 tyX2 tyX2_ok nmX2 hown hZ.1 hP hD hS 0 rfl rfl 3 (by decide) hf97 (fun _ h9 => h9) rfl (by decide +kernel) rfl rfl (Nat.le_of_ble_eq_true rfl) dX2_moveTo_64 (fun H locs hP hD hS => ?_)
          have hP : va_P D vwCl (pD cZ cI a o o' q (nw + 1, true, cg, some ct, some r, eatE σ r (ea)) ω ω' (zN σ, zM σ, zS σ, eatC σ r, zF σ, zG σ, zP σ, zT σ, zL σ)) H := hP
          have hD : va_D A (pD cZ cI a o o' q (nw + 1, true, cg, some ct, some r, eatE σ r (ea)) ω ω' (zN σ, zM σ, zS σ, eatC σ r, zF σ, zG σ, zP σ, zT σ, zL σ)) := hD
          have hP9 : va_P D vwCl (pD cZ cI a o o' q (mvK σ nw cg ct mo ea r) ω ω' (zN σ, zM σ, zS σ, mvC σ nw ct mo r, zF σ, zG σ, zP σ, zT σ, zL σ)) H := by (rw [show mvK σ nw cg ct mo ea r = (nw + 1, true, cg, some ct, some r, eatE σ r (ea)) from by simp [mvK, mvCat, mvMou, c4_3, c14_7, c38_8, c49_9], show mvC σ nw ct mo r = eatC σ r from by simp [mvC, mvCat, mvMou, c4_3, c14_7, c38_8, c49_9]]; exact hP)
          have hD9 : va_D A (pD cZ cI a o o' q (mvK σ nw cg ct mo ea r) ω ω' (zN σ, zM σ, zS σ, mvC σ nw ct mo r, zF σ, zG σ, zP σ, zT σ, zL σ)) := by (rw [show mvK σ nw cg ct mo ea r = (nw + 1, true, cg, some ct, some r, eatE σ r (ea)) from by simp [mvK, mvCat, mvMou, c4_3, c14_7, c38_8, c49_9], show mvC σ nw ct mo r = eatC σ r from by simp [mvC, mvCat, mvMou, c4_3, c14_7, c38_8, c49_9]]; exact hD)
          exact W.vret hx hb hr (fun t ht hW => ⟨⟨(), rfl, trivial, by rw [ht]; exact hP9, hD9⟩, hS.F ht⟩) hS.2.2 dX2_moveTo_67
      · skip
        refine lv_aload_n hx hb dX2_moveTo_41 rfl (lv_at hl 1 rfl) ?_
        have hFc := va_free (wc := pD cZ cI a o o' q (nw, true, cg, some ct, some r, ea) ω ω' σ) hD hS hA [0, 1, 2, 3, 4, 5, 6, 7, 8, 9, 10, 11, 12, 13, 14, 15, 16, 17, 18] rfl
        refine va_callv (va_runV (As := []) (rest := []) ⟨hx, hb, hml, hown, hts⟩ (c_X2_endChase l D cZ cI a o o' q (nw, true, cg, some ct, some r, ea) ω ω' σ H.size  ) (cwV 0 hts gX2_moveTo_X2_endChase rfl rfl rfl (by decide +kernel) ⟨Nat.le_of_ble_eq_true rfl, Nat.le_of_ble_eq_true rfl⟩) ⟨WrP_blind, va_recv hZ.1 hP (ci := 2) (q0 := 0) rfl rfl, WrP_start hP hD hZ⟩ rfl rfl hl.1 rfl (lv_room (Nat.le_of_ble_eq_true rfl)) dX2_moveTo_42 ⟨Nat.le_of_ble_eq_true rfl, Nat.le_of_ble_eq_true rfl⟩) hS (fun q _ h => hFc q h) hFc (fun u t H1 locs ht hvm hw hB hz1 hk1 hS => ?_)
        obtain ⟨hP, hD⟩ := hB
        rw [ht] at hP
        replace hD := hD.weaken (fun _ _ _ h => hFc _ h)
        generalize H1 = H at hP hS ⊢
        have hP : va_P D vwCl (pD cZ cI a o o' q (nw, false, true, none, none, ea) ω ω' σ) H := hP
        have hD : va_D A (pD cZ cI a o o' q (nw, false, true, none, none, ea) ω ω' σ) := hD
        refine lv_goto (tgt := 57) hx hb dX2_moveTo_45 (by decide) ?_
        refine lv_aload_n hx hb dX2_moveTo_57 rfl (lv_at hl 1 rfl) ?_
        refine lv_dup hx hb dX2_moveTo_58 rfl ?_
        refine va_get (D := D) (ci := 2) (v := .int (nI nw)) (C := RX2) (T := TX2) (N := 9) hx hb hts hin2 hown hZ.1 hP 0 rfl rfl 3 (by decide) hf97 (fun _ h9 => h9) rfl dX2_moveTo_59 ?_
        refine lv_iconst (v := nI 1) hx hb dX2_moveTo_62 (by decide) ?_
        refine rv_add hx hb dX2_moveTo_63 ?_
        refine va_put (D := D) (ci := 2) (v := .int (nI (nw + 1))) (ty := .int) (C := RX2) (T := TX2) (N := 9) hx hb hts hin2 tyX2 tyX2_ok nmX2 hown hZ.1 hP hD hS 0 rfl rfl 3 (by decide) hf97 (fun _ h9 => h9) rfl (by decide +kernel) rfl rfl (Nat.le_of_ble_eq_true rfl) dX2_moveTo_64 (fun H locs hP hD hS => ?_)
        have hP : va_P D vwCl (pD cZ cI a o o' q (nw + 1, false, true, none, none, ea) ω ω' σ) H := hP
        have hD : va_D A (pD cZ cI a o o' q (nw + 1, false, true, none, none, ea) ω ω' σ) := hD
        have hP9 : va_P D vwCl (pD cZ cI a o o' q (mvK σ nw cg ct mo ea r) ω ω' (zN σ, zM σ, zS σ, mvC σ nw ct mo r, zF σ, zG σ, zP σ, zT σ, zL σ)) H := by (rw [show mvK σ nw cg ct mo ea r = (nw + 1, false, true, none, none, ea) from by simp [mvK, mvCat, mvMou, c4_3, c14_7, c38_8], show mvC σ nw ct mo r = zC σ from by simp [mvC, mvCat, mvMou, c4_3, c14_7, c38_8]]; exact hP)
        have hD9 : va_D A (pD cZ cI a o o' q (mvK σ nw cg ct mo ea r) ω ω' (zN σ, zM σ, zS σ, mvC σ nw ct mo r, zF σ, zG σ, zP σ, zT σ, zL σ)) := by (rw [show mvK σ nw cg ct mo ea r = (nw + 1, false, true, none, none, ea) from by simp [mvK, mvCat, mvMou, c4_3, c14_7, c38_8], show mvC σ nw ct mo r = zC σ from by simp [mvC, mvCat, mvMou, c4_3, c14_7, c38_8]]; exact hD)
        exact W.vret hx hb hr (fun t ht hW => ⟨⟨(), rfl, trivial, by rw [ht]; exact hP9, hD9⟩, hS.F ht⟩) hS.2.2 dX2_moveTo_67


