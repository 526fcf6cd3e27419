set_option maxHeartbeats 4000000 in
set_option maxRecDepth 100000 in
theorem c_J9_floorMod_7cf53 (l : Launch) (D : va_G) (cZ cI : ClassId)   (x : Nat) (y : Nat) (hx9 : x < 2 ^ 31) (hy9 : y < 2 ^ 31) (h0 : 0 < y) : Met l yJ9_floorMod_7cf53 wsJ9_floorMod_7cf53 ({ frames := 0, cells := 0, slots := 0, locals := 0 }) (RdP D cZ cI [.int (nI x), .int (nI y)] ([])) (vp_Si (fun r0 => r0 = nI (x % y))) 0 0 (fun _ => False) := by
  refine va_MetF (cc := cJ9_floorMod_7cf53) (maxL := 3) (ret := (some .int)) (by decide +kernel) rfl ?_
  intro p e s m args below meth c s₁ B hml hv
  obtain ⟨rfl, hP, hZ⟩ := hv
  have hx := B.exec
  have hb := B.bytes
  have hr := B.returns
  have hts := atoms_spec (ws := wsJ9_floorMod_7cf53) B.pre
  have hown : s.vm.findClass RJ9 = some m.cls := findClass_of_methodNamed B.named
  have hlocks := B.notSynchronized
  have hP : va_P D vwCl ([]) s.heap := hP
  have hl := lv_entry ([.int (nI x), .int (nI y)]) (n := 3) (Nat.le_of_ble_eq_true rfl)
  rw [lg_entry_eq]
  generalize (lg_sl ([.int (nI x), .int (nI y)]) ++ List.replicate (3 - (lg_sl ([.int (nI x), .int (nI y)])).length) Slot.unset).toArray = ls at hl ⊢
  have hl : lv_has ls 3 [(0, .int (nI x)), (1, .int (nI y))] := hl
  refine lv_iload_n hx hb dJ9_floorMod_7cf53_0 rfl (lv_at hl 0 rfl) ?_
  refine lv_iload_n hx hb dJ9_floorMod_7cf53_1 rfl (lv_at hl 1 rfl) ?_
  refine rv_rem hx hb (by omega) (by omega) (by omega) dJ9_floorMod_7cf53_2 ?_
  refine lv_istore_n (lv' := [(2, .int (nI (x % y))), (0, .int (nI x)), (1, .int (nI y))]) hx hb dJ9_floorMod_7cf53_3 rfl hl (by decide) rfl (fun ls hl => ?_)
  refine lv_iload_n hx hb dJ9_floorMod_7cf53_4 rfl (lv_at hl 1 rfl) ?_
  refine lv_iload_n hx hb dJ9_floorMod_7cf53_5 rfl (lv_at hl 2 rfl) ?_
  refine rv_xor hx hb dJ9_floorMod_7cf53_6 ?_
  refine rv_ifgeN (tgt := 18) hx hb (Nat.xor_lt_two_pow hx9 hy9) dJ9_floorMod_7cf53_7 (by decide) ?_
  refine lv_iload_n hx hb dJ9_floorMod_7cf53_18 rfl (lv_at hl 0 rfl) ?_
  exact W.iret (v := nI (x % y)) hx hb hr (fun t ht hW => ⟨_, rfl, rfl, ht⟩) (fun q h => absurd h List.not_mem_nil) dJ9_floorMod_7cf53_19

set_option maxHeartbeats 4000000 in
set_option maxRecDepth 100000 in
theorem c_X2_turn (l : Launch) (D : va_G) (cZ cI : ClassId) (a : Nat) (o : Nat → Nat) (o' : Nat → Nat) (q : Nat → Nat) (κ : CS) (ω : OS) (ω' : OS) (σ : HS)    : Met l yX2_turn wsX2_turn ({ frames := 0, cells := 0, slots := 0, locals := 0 }) (RdP D cZ cI [.ref a] (pD cZ cI a o o' q κ ω ω' σ)) (vp_Si (fun r0 => r0 = nI (kn κ))) 0 0 (fun _ => False) := by
  refine Met.ofW (cc := cX2_turn) (maxL := 1) (ret := (some .int)) (by decide) rfl ?_
  intro p e s m args below meth c s₁ B hml hv
  obtain ⟨rfl, hP, hZ⟩ := hv
  have hx := B.exec
  have hb := B.bytes
  have hr := B.returns
  have hts := atoms_spec (ws := wsX2_turn) B.pre
  have hown : s.vm.findClass RX2 = some m.cls := findClass_of_methodNamed B.named
  have hlocks := B.notSynchronized
  have hP : va_P D vwCl (pD cZ cI a o o' q κ ω ω' σ) s.heap := hP
  have hl := lv_entry ([.ref a]) (n := 1) (Nat.le_of_ble_eq_true rfl)
  rw [lg_entry_eq]
  generalize (lg_sl ([.ref a]) ++ List.replicate (1 - (lg_sl ([.ref a])).length) Slot.unset).toArray = ls at hl ⊢
  have hl : lv_has ls 1 [(0, .ref a)] := hl
  have hin2 : ∀ w ∈ u_ws RX2 TX2 9, w ∈ wsX2_turn := by decide +kernel
  have hf97 := hts (.fieldLink RX2 97 "DoorChase" "now" "I") (by decide +kernel)
  refine lv_aload_n hx hb dX2_turn_0 rfl (lv_at hl 0 rfl) ?_
  refine va_get (D := D) (ci := 2) (v := .int (nI (kn κ))) (C := RX2) (T := TX2) (N := 9) hx hb hts hin2 hown hZ.1 hP 0 rfl rfl 3 (by decide) hf97 (fun _ h9 => h9) rfl dX2_turn_1 ?_
  exact W.iret (v := nI (kn κ)) hx hb hr (fun t ht hW => ⟨_, rfl, rfl, ht⟩) (fun q h => absurd h List.not_mem_nil) dX2_turn_4

set_option maxHeartbeats 4000000 in
set_option maxRecDepth 100000 in
theorem c_X2_rooms (l : Launch) (D : va_G) (cZ cI : ClassId) (a : Nat) (o : Nat → Nat) (o' : Nat → Nat) (q : Nat → Nat) (κ : CS) (ω : OS) (ω' : OS) (σ : HS)    : Met l yX2_rooms wsX2_rooms ({ frames := 0, cells := 0, slots := 0, locals := 0 }) (RdP D cZ cI [.ref a] (pD cZ cI a o o' q κ ω ω' σ)) (vp_Si (fun r0 => r0 = nI (zN σ))) 0 0 (fun _ => False) := by
  refine Met.ofW (cc := cX2_rooms) (maxL := 1) (ret := (some .int)) (by decide) rfl ?_
  intro p e s m args below meth c s₁ B hml hv
  obtain ⟨rfl, hP, hZ⟩ := hv
  have hx := B.exec
  have hb := B.bytes
  have hr := B.returns
  have hts := atoms_spec (ws := wsX2_rooms) B.pre
  have hown : s.vm.findClass RX2 = some m.cls := findClass_of_methodNamed B.named
  have hlocks := B.notSynchronized
  have hP : va_P D vwCl (pD cZ cI a o o' q κ ω ω' σ) s.heap := hP
  have hl := lv_entry ([.ref a]) (n := 1) (Nat.le_of_ble_eq_true rfl)
  rw [lg_entry_eq]
  generalize (lg_sl ([.ref a]) ++ List.replicate (1 - (lg_sl ([.ref a])).length) Slot.unset).toArray = ls at hl ⊢
  have hl : lv_has ls 1 [(0, .ref a)] := hl
  have hin2 : ∀ w ∈ u_ws RX2 TX2 9, w ∈ wsX2_rooms := by decide +kernel
  have hin0 : ∀ w ∈ u_ws RX0 TX0 9, w ∈ wsX2_rooms := by decide +kernel
  have hf10 := hts (.fieldLink RX2 10 "DoorChase" "house" "LDoorChase$House;") (by decide +kernel)
  have hf33 := hts (.fieldLink RX2 33 "DoorChase$House" "roomCount" "I") (by decide +kernel)
  refine lv_aload_n hx hb dX2_rooms_0 rfl (lv_at hl 0 rfl) ?_
  refine va_get (D := D) (ci := 2) (v := .ref (q 0)) (C := RX2) (T := TX2) (N := 9) hx hb hts hin2 hown hZ.1 hP 0 rfl rfl 0 (by decide) hf10 (fun _ h9 => h9) rfl dX2_rooms_1 ?_
  refine va_get (D := D) (ci := 0) (v := .int (nI (zN σ))) (C := RX0) (T := TX0) (N := 9) hx hb hts hin0 hown hZ.1 hP 11 rfl rfl 0 (by decide) hf33 (fun _ h9 => h9) rfl dX2_rooms_4 ?_
  exact W.iret (v := nI (zN σ)) hx hb hr (fun t ht hW => ⟨_, rfl, rfl, ht⟩) (fun q h => absurd h List.not_mem_nil) dX2_rooms_7

set_option maxHeartbeats 4000000 in
set_option maxRecDepth 100000 in
theorem c_X2_doors (l : Launch) (D : va_G) (cZ cI : ClassId) (a : Nat) (o : Nat → Nat) (o' : Nat → Nat) (q : Nat → Nat) (κ : CS) (ω : OS) (ω' : OS) (σ : HS)    : Met l yX2_doors wsX2_doors ({ frames := 0, cells := 0, slots := 0, locals := 0 }) (RdP D cZ cI [.ref a] (pD cZ cI a o o' q κ ω ω' σ)) (vp_Si (fun r0 => r0 = nI (zM σ))) 0 0 (fun _ => False) := by
  refine Met.ofW (cc := cX2_doors) (maxL := 1) (ret := (some .int)) (by decide) rfl ?_
  intro p e s m args below meth c s₁ B hml hv
  obtain ⟨rfl, hP, hZ⟩ := hv
  have hx := B.exec
  have hb := B.bytes
  have hr := B.returns
  have hts := atoms_spec (ws := wsX2_doors) B.pre
  have hown : s.vm.findClass RX2 = some m.cls := findClass_of_methodNamed B.named
  have hlocks := B.notSynchronized
  have hP : va_P D vwCl (pD cZ cI a o o' q κ ω ω' σ) s.heap := hP
  have hl := lv_entry ([.ref a]) (n := 1) (Nat.le_of_ble_eq_true rfl)
  rw [lg_entry_eq]
  generalize (lg_sl ([.ref a]) ++ List.replicate (1 - (lg_sl ([.ref a])).length) Slot.unset).toArray = ls at hl ⊢
  have hl : lv_has ls 1 [(0, .ref a)] := hl
  have hin2 : ∀ w ∈ u_ws RX2 TX2 9, w ∈ wsX2_doors := by decide +kernel
  have hin0 : ∀ w ∈ u_ws RX0 TX0 9, w ∈ wsX2_doors := by decide +kernel
  have hf10 := hts (.fieldLink RX2 10 "DoorChase" "house" "LDoorChase$House;") (by decide +kernel)
  have hf62 := hts (.fieldLink RX2 62 "DoorChase$House" "doorCount" "I") (by decide +kernel)
  refine lv_aload_n hx hb dX2_doors_0 rfl (lv_at hl 0 rfl) ?_
  refine va_get (D := D) (ci := 2) (v := .ref (q 0)) (C := RX2) (T := TX2) (N := 9) hx hb hts hin2 hown hZ.1 hP 0 rfl rfl 0 (by decide) hf10 (fun _ h9 => h9) rfl dX2_doors_1 ?_
  refine va_get (D := D) (ci := 0) (v := .int (nI (zM σ))) (C := RX0) (T := TX0) (N := 9) hx hb hts hin0 hown hZ.1 hP 11 rfl rfl 3 (by decide) hf62 (fun _ h9 => h9) rfl dX2_doors_4 ?_
  exact W.iret (v := nI (zM σ)) hx hb hr (fun t ht hW => ⟨_, rfl, rfl, ht⟩) (fun q h => absurd h List.not_mem_nil) dX2_doors_7

set_option maxHeartbeats 4000000 in
set_option maxRecDepth 100000 in
theorem c_X2_isOn (l : Launch) (D : va_G) (cZ cI : ClassId) (a : Nat) (o : Nat → Nat) (o' : Nat → Nat) (q : Nat → Nat) (κ : CS) (ω : OS) (ω' : OS) (σ : HS)    : Met l yX2_isOn wsX2_isOn ({ frames := 0, cells := 0, slots := 0, locals := 0 }) (RdP D cZ cI [.ref a] (pD cZ cI a o o' q κ ω ω' σ)) (vp_Si (fun r0 => r0 = bI (ko κ))) 0 0 (fun _ => False) := by
  refine Met.ofW (cc := cX2_isOn) (maxL := 1) (ret := (some .boolean)) (by decide) rfl ?_
  intro p e s m args below meth c s₁ B hml hv
  obtain ⟨rfl, hP, hZ⟩ := hv
  have hx := B.exec
  have hb := B.bytes
  have hr := B.returns
  have hts := atoms_spec (ws := wsX2_isOn) B.pre
  have hown : s.vm.findClass RX2 = some m.cls := findClass_of_methodNamed B.named
  have hlocks := B.notSynchronized
  have hP : va_P D vwCl (pD cZ cI a o o' q κ ω ω' σ) s.heap := hP
  have hl := lv_entry ([.ref a]) (n := 1) (Nat.le_of_ble_eq_true rfl)
  rw [lg_entry_eq]
  generalize (lg_sl ([.ref a]) ++ List.replicate (1 - (lg_sl ([.ref a])).length) Slot.unset).toArray = ls at hl ⊢
  have hl : lv_has ls 1 [(0, .ref a)] := hl
  have hin2 : ∀ w ∈ u_ws RX2 TX2 9, w ∈ wsX2_isOn := by decide +kernel
  have hf107 := hts (.fieldLink RX2 107 "DoorChase" "isGoingOn" "Z") (by decide +kernel)
  refine lv_aload_n hx hb dX2_isOn_0 rfl (lv_at hl 0 rfl) ?_
  refine va_get (D := D) (ci := 2) (v := .int (bI (ko κ))) (C := RX2) (T := TX2) (N := 9) hx hb hts hin2 hown hZ.1 hP 0 rfl rfl 4 (by decide) hf107 (fun _ h9 => h9) rfl dX2_isOn_1 ?_
  exact W.zret (v := bI (ko κ)) hx hb hr (nr_bI _) (fun t ht hW => ⟨_, rfl, rfl, ht⟩) (fun q h => absurd h List.not_mem_nil) dX2_isOn_4

set_option maxHeartbeats 4000000 in
set_option maxRecDepth 100000 in
theorem c_X2_isCaught (l : Launch) (D : va_G) (cZ cI : ClassId) (a : Nat) (o : Nat → Nat) (o' : Nat → Nat) (q : Nat → Nat) (κ : CS) (ω : OS) (ω' : OS) (σ : HS)    : Met l yX2_isCaught wsX2_isCaught ({ frames := 0, cells := 0, slots := 0, locals := 0 }) (RdP D cZ cI [.ref a] (pD cZ cI a o o' q κ ω ω' σ)) (vp_Si (fun r0 => r0 = bI (kg κ))) 0 0 (fun _ => False) := by
  refine Met.ofW (cc := cX2_isCaught) (maxL := 1) (ret := (some .boolean)) (by decide) rfl ?_
  intro p e s m args below meth c s₁ B hml hv
  obtain ⟨rfl, hP, hZ⟩ := hv
  have hx := B.exec
  have hb := B.bytes
  have hr := B.returns
  have hts := atoms_spec (ws := wsX2_isCaught) B.pre
  have hown : s.vm.findClass RX2 = some m.cls := findClass_of_methodNamed B.named
  have hlocks := B.notSynchronized
  have hP : va_P D vwCl (pD cZ cI a o o' q κ ω ω' σ) s.heap := hP
  have hl := lv_entry ([.ref a]) (n := 1) (Nat.le_of_ble_eq_true rfl)
  rw [lg_entry_eq]
  generalize (lg_sl ([.ref a]) ++ List.replicate (1 - (lg_sl ([.ref a])).length) Slot.unset).toArray = ls at hl ⊢
  have hl : lv_has ls 1 [(0, .ref a)] := hl
  have hin2 : ∀ w ∈ u_ws RX2 TX2 9, w ∈ wsX2_isCaught := by decide +kernel
  have hf103 := hts (.fieldLink RX2 103 "DoorChase" "wasCaught" "Z") (by decide +kernel)
  refine lv_aload_n hx hb dX2_isCaught_0 rfl (lv_at hl 0 rfl) ?_
  refine va_get (D := D) (ci := 2) (v := .int (bI (kg κ))) (C := RX2) (T := TX2) (N := 9) hx hb hts hin2 hown hZ.1 hP 0 rfl rfl 5 (by decide) hf103 (fun _ h9 => h9) rfl dX2_isCaught_1 ?_
  exact W.zret (v := bI (kg κ)) hx hb hr (nr_bI _) (fun t ht hW => ⟨_, rfl, rfl, ht⟩) (fun q h => absurd h List.not_mem_nil) dX2_isCaught_4

set_option maxHeartbeats 4000000 in
set_option maxRecDepth 100000 in
theorem c_X2_catIn (l : Launch) (D : va_G) (cZ cI : ClassId) (a : Nat) (o : Nat → Nat) (o' : Nat → Nat) (q : Nat → Nat) (κ : CS) (ω : OS) (ω' : OS) (σ : HS)    : Met l yX2_catIn wsX2_catIn ({ frames := 0, cells := 0, slots := 0, locals := 0 }) (RdP D cZ cI [.ref a] (pD cZ cI a o o' q κ ω ω' σ)) (vp_Si (fun r0 => r0 = iO (kc κ))) 0 0 (fun _ => False) := by
  refine Met.ofW (cc := cX2_catIn) (maxL := 1) (ret := (some .int)) (by decide) rfl ?_
  intro p e s m args below meth c s₁ B hml hv
  obtain ⟨rfl, hP, hZ⟩ := hv
  have hx := B.exec
  have hb := B.bytes
  have hr := B.returns
  have hts := atoms_spec (ws := wsX2_catIn) B.pre
  have hown : s.vm.findClass RX2 = some m.cls := findClass_of_methodNamed B.named
  have hlocks := B.notSynchronized
  have hP : va_P D vwCl (pD cZ cI a o o' q κ ω ω' σ) s.heap := hP
  have hl := lv_entry ([.ref a]) (n := 1) (Nat.le_of_ble_eq_true rfl)
  rw [lg_entry_eq]
  generalize (lg_sl ([.ref a]) ++ List.replicate (1 - (lg_sl ([.ref a])).length) Slot.unset).toArray = ls at hl ⊢
  have hl : lv_has ls 1 [(0, .ref a)] := hl
  have hin2 : ∀ w ∈ u_ws RX2 TX2 9, w ∈ wsX2_catIn := by decide +kernel
  have hf26 := hts (.fieldLink RX2 26 "DoorChase" "cat" "I") (by decide +kernel)
  refine lv_aload_n hx hb dX2_catIn_0 rfl (lv_at hl 0 rfl) ?_
  refine va_get (D := D) (ci := 2) (v := .int (iO (kc κ))) (C := RX2) (T := TX2) (N := 9) hx hb hts hin2 hown hZ.1 hP 0 rfl rfl 6 (by decide) hf26 (fun _ h9 => h9) rfl dX2_catIn_1 ?_
  exact W.iret (v := iO (kc κ)) hx hb hr (fun t ht hW => ⟨_, rfl, rfl, ht⟩) (fun q h => absurd h List.not_mem_nil) dX2_catIn_4

set_option maxHeartbeats 4000000 in
set_option maxRecDepth 100000 in
theorem c_X2_mouseIn (l : Launch) (D : va_G) (cZ cI : ClassId) (a : Nat) (o : Nat → Nat) (o' : Nat → Nat) (q : Nat → Nat) (κ : CS) (ω : OS) (ω' : OS) (σ : HS)    : Met l yX2_mouseIn wsX2_mouseIn ({ frames := 0, cells := 0, slots := 0, locals := 0 }) (RdP D cZ cI [.ref a] (pD cZ cI a o o' q κ ω ω' σ)) (vp_Si (fun r0 => r0 = iO (km κ))) 0 0 (fun _ => False) := by
  refine Met.ofW (cc := cX2_mouseIn) (maxL := 1) (ret := (some .int)) (by decide) rfl ?_
  intro p e s m args below meth c s₁ B hml hv
  obtain ⟨rfl, hP, hZ⟩ := hv
  have hx := B.exec
  have hb := B.bytes
  have hr := B.returns
  have hts := atoms_spec (ws := wsX2_mouseIn) B.pre
  have hown : s.vm.findClass RX2 = some m.cls := findClass_of_methodNamed B.named
  have hlocks := B.notSynchronized
  have hP : va_P D vwCl (pD cZ cI a o o' q κ ω ω' σ) s.heap := hP
  have hl := lv_entry ([.ref a]) (n := 1) (Nat.le_of_ble_eq_true rfl)
  rw [lg_entry_eq]
  generalize (lg_sl ([.ref a]) ++ List.replicate (1 - (lg_sl ([.ref a])).length) Slot.unset).toArray = ls at hl ⊢
  have hl : lv_has ls 1 [(0, .ref a)] := hl
  have hin2 : ∀ w ∈ u_ws RX2 TX2 9, w ∈ wsX2_mouseIn := by decide +kernel
  have hf30 := hts (.fieldLink RX2 30 "DoorChase" "mouse" "I") (by decide +kernel)
  refine lv_aload_n hx hb dX2_mouseIn_0 rfl (lv_at hl 0 rfl) ?_
  refine va_get (D := D) (ci := 2) (v := .int (iO (km κ))) (C := RX2) (T := TX2) (N := 9) hx hb hts hin2 hown hZ.1 hP 0 rfl rfl 7 (by decide) hf30 (fun _ h9 => h9) rfl dX2_mouseIn_1 ?_
  exact W.iret (v := iO (km κ)) hx hb hr (fun t ht hW => ⟨_, rfl, rfl, ht⟩) (fun q h => absurd h List.not_mem_nil) dX2_mouseIn_4

set_option maxHeartbeats 4000000 in
set_option maxRecDepth 100000 in
theorem c_X2_eaten (l : Launch) (D : va_G) (cZ cI : ClassId) (a : Nat) (o : Nat → Nat) (o' : Nat → Nat) (q : Nat → Nat) (κ : CS) (ω : OS) (ω' : OS) (σ : HS)    : Met l yX2_eaten wsX2_eaten ({ frames := 0, cells := 0, slots := 0, locals := 0 }) (RdP D cZ cI [.ref a] (pD cZ cI a o o' q κ ω ω' σ)) (vp_Si (fun r0 => r0 = nI (ke κ))) 0 0 (fun _ => False) := by
  refine Met.ofW (cc := cX2_eaten) (maxL := 1) (ret := (some .int)) (by decide) rfl ?_
  intro p e s m args below meth c s₁ B hml hv
  obtain ⟨rfl, hP, hZ⟩ := hv
  have hx := B.exec
  have hb := B.bytes
  have hr := B.returns
  have hts := atoms_spec (ws := wsX2_eaten) B.pre
  have hown : s.vm.findClass RX2 = some m.cls := findClass_of_methodNamed B.named
  have hlocks := B.notSynchronized
  have hP : va_P D vwCl (pD cZ cI a o o' q κ ω ω' σ) s.heap := hP
  have hl := lv_entry ([.ref a]) (n := 1) (Nat.le_of_ble_eq_true rfl)
  rw [lg_entry_eq]
  generalize (lg_sl ([.ref a]) ++ List.replicate (1 - (lg_sl ([.ref a])).length) Slot.unset).toArray = ls at hl ⊢
  have hl : lv_has ls 1 [(0, .ref a)] := hl
  have hin2 : ∀ w ∈ u_ws RX2 TX2 9, w ∈ wsX2_eaten := by decide +kernel
  have hf100 := hts (.fieldLink RX2 100 "DoorChase" "cheeseEaten" "I") (by decide +kernel)
  refine lv_aload_n hx hb dX2_eaten_0 rfl (lv_at hl 0 rfl) ?_
  refine va_get (D := D) (ci := 2) (v := .int (nI (ke κ))) (C := RX2) (T := TX2) (N := 9) hx hb hts hin2 hown hZ.1 hP 0 rfl rfl 8 (by decide) hf100 (fun _ h9 => h9) rfl dX2_eaten_1 ?_
  exact W.iret (v := nI (ke κ)) hx hb hr (fun t ht hW => ⟨_, rfl, rfl, ht⟩) (fun q h => absurd h List.not_mem_nil) dX2_eaten_4

set_option maxHeartbeats 4000000 in
set_option maxRecDepth 100000 in
theorem c_X2_isCatsTurn (l : Launch) (D : va_G) (cZ cI : ClassId) (a : Nat) (o : Nat → Nat) (o' : Nat → Nat) (q : Nat → Nat) (κ : CS) (ω : OS) (ω' : OS) (σ : HS)   (hnw : kn κ < 2 ^ 30) : Met l yX2_isCatsTurn wsX2_isCatsTurn ({ frames := 1, cells := 0, slots := 0, locals := 20 }) (RdP D cZ cI [.ref a] (pD cZ cI a o o' q κ ω ω' σ)) (vp_Si (fun r0 => r0 = bI (isC (kn κ)))) 0 0 (fun _ => False) := by
  refine Met.ofW (cc := cX2_isCatsTurn) (maxL := 1) (ret := (some .boolean)) (by decide) rfl ?_
  intro p e s m args below meth c s₁ B hml hv
  obtain ⟨rfl, hP, hZ⟩ := hv
  have hx := B.exec
  have hb := B.bytes
  have hr := B.returns
  have hts := atoms_spec (ws := wsX2_isCatsTurn) B.pre
  have hown : s.vm.findClass RX2 = some m.cls := findClass_of_methodNamed B.named
  have hlocks := B.notSynchronized
  have hP : va_P D vwCl (pD cZ cI a o o' q κ ω ω' σ) s.heap := hP
  have hl := lv_entry ([.ref a]) (n := 1) (Nat.le_of_ble_eq_true rfl)
  rw [lg_entry_eq]
  generalize (lg_sl ([.ref a]) ++ List.replicate (1 - (lg_sl ([.ref a])).length) Slot.unset).toArray = ls at hl ⊢
  have hl : lv_has ls 1 [(0, .ref a)] := hl
  have hin2 : ∀ w ∈ u_ws RX2 TX2 9, w ∈ wsX2_isCatsTurn := by decide +kernel
  have hf97 := hts (.fieldLink RX2 97 "DoorChase" "now" "I") (by decide +kernel)
  refine lv_aload_n hx hb dX2_isCatsTurn_0 rfl (lv_at hl 0 rfl) ?_
  refine va_get (D := D) (ci := 2) (v := .int (nI (kn κ))) (C := RX2) (T := TX2) (N := 9) hx hb hts hin2 hown hZ.1 hP 0 rfl rfl 3 (by decide) hf97 (fun _ h9 => h9) rfl dX2_isCatsTurn_1 ?_
  refine vp_callSi (va_runS (As := [.int (nI (kn κ))]) (rest := []) ⟨hx, hb, hml, hown, hts⟩ (c_X2_isCatsPhase l D cZ cI   (kn κ) (by first | assumption | omega)) (va_cwS 1 hts gX2_isCatsTurn_X2_isCatsPhase rfl rfl rfl (by decide +kernel) ⟨Nat.le_of_ble_eq_true rfl, Nat.le_of_ble_eq_true rfl⟩) ⟨RdP_blind, RdP_start (hP.sub (ws' := []) [] rfl) hZ⟩ rfl rfl hl.1 rfl (lv_room (Nat.le_of_ble_eq_true rfl)) dX2_isCatsTurn_4 ⟨Nat.le_of_ble_eq_true rfl, Nat.le_of_ble_eq_true rfl⟩).run (fun r_1 hr_2 => ?_)
  subst hr_2
  refine rv_top (show _ = bI (isC (kn κ)) from rfl) ?_
  exact W.zret (v := bI (isC (kn κ))) hx hb hr (nr_bI _) (fun t ht hW => ⟨_, rfl, rfl, ht⟩) (fun q h => absurd h List.not_mem_nil) dX2_isCatsTurn_7

set_option maxHeartbeats 4000000 in
set_option maxRecDepth 100000 in
theorem c_X2_phaseAfter (l : Launch) (D : va_G) (cZ cI : ClassId) (a : Nat) (o : Nat → Nat) (o' : Nat → Nat) (q : Nat → Nat) (κ : CS) (ω : OS) (ω' : OS) (σ : HS)  (t9 : Nat) (hnw : kn κ < 2 ^ 30) (ht9 : t9 < 2 ^ 30) : Met l yX2_phaseAfter wsX2_phaseAfter ({ frames := 1, cells := 0, slots := 0, locals := 22 }) (RdP D cZ cI [.ref a, .int (nI t9)] (pD cZ cI a o o' q κ ω ω' σ)) (vp_Si (fun r0 => r0 = nI ((kn κ + t9) % 12))) 0 0 (fun _ => False) := by
  refine Met.ofW (cc := cX2_phaseAfter) (maxL := 2) (ret := (some .int)) (by decide) rfl ?_
  intro p e s m args below meth c s₁ B hml hv
  obtain ⟨rfl, hP, hZ⟩ := hv
  have hx := B.exec
  have hb := B.bytes
  have hr := B.returns
  have hts := atoms_spec (ws := wsX2_phaseAfter) B.pre
  have hown : s.vm.findClass RX2 = some m.cls := findClass_of_methodNamed B.named
  have hlocks := B.notSynchronized
  have hP : va_P D vwCl (pD cZ cI a o o' q κ ω ω' σ) s.heap := hP
  have hl := lv_entry ([.ref a, .int (nI t9)]) (n := 2) (Nat.le_of_ble_eq_true rfl)
  rw [lg_entry_eq]
  generalize (lg_sl ([.ref a, .int (nI t9)]) ++ List.replicate (2 - (lg_sl ([.ref a, .int (nI t9)])).length) Slot.unset).toArray = ls at hl ⊢
  have hl : lv_has ls 2 [(0, .ref a), (1, .int (nI t9))] := hl
  have hin2 : ∀ w ∈ u_ws RX2 TX2 9, w ∈ wsX2_phaseAfter := by decide +kernel
  have hf97 := hts (.fieldLink RX2 97 "DoorChase" "now" "I") (by decide +kernel)
  refine lv_aload_n hx hb dX2_phaseAfter_0 rfl (lv_at hl 0 rfl) ?_
  refine va_get (D := D) (ci := 2) (v := .int (nI (kn κ))) (C := RX2) (T := TX2) (N := 9) hx hb hts hin2 hown hZ.1 hP 0 rfl rfl 3 (by decide) hf97 (fun _ h9 => h9) rfl dX2_phaseAfter_1 ?_
  refine lv_iload_n hx hb dX2_phaseAfter_4 rfl (lv_at hl 1 rfl) ?_
  refine rv_add hx hb dX2_phaseAfter_5 ?_
  refine lv_bipush (v := nI 12) hx hb dX2_phaseAfter_6 (by decide) ?_
  refine vp_callSi (va_runS (As := [.int (nI (kn κ + t9)), .int (nI 12)]) (rest := []) ⟨hx, hb, hml, hown, hts⟩ (c_J9_floorMod_7cf53 l D cZ cI   (kn κ + t9) 12 (by first | assumption | omega) (by first | assumption | omega) (by first | assumption | omega)) (va_cwS 2 hts gX2_phaseAfter_J9_floorMod_7cf53 rfl rfl rfl (by decide +kernel) ⟨Nat.le_of_ble_eq_true rfl, Nat.le_of_ble_eq_true rfl⟩) ⟨RdP_blind, RdP_start (hP.sub (ws' := []) [] rfl) hZ⟩ rfl rfl hl.1 rfl (lv_room (Nat.le_of_ble_eq_true rfl)) dX2_phaseAfter_8 ⟨Nat.le_of_ble_eq_true rfl, Nat.le_of_ble_eq_true rfl⟩).run (fun r_1 hr_2 => ?_)
  subst hr_2
  refine rv_top (show _ = nI ((kn κ + t9) % 12) from rfl) ?_
  exact W.iret (v := nI ((kn κ + t9) % 12)) hx hb hr (fun t ht hW => ⟨_, rfl, rfl, ht⟩) (fun q h => absurd h List.not_mem_nil) dX2_phaseAfter_11

set_option maxHeartbeats 4000000 in
set_option maxRecDepth 100000 in
theorem c_X2_requireRoom (l : Launch) (D : va_G) (cZ cI : ClassId) (a : Nat) (o : Nat → Nat) (o' : Nat → Nat) (q : Nat → Nat) (κ : CS) (ω : OS) (ω' : OS) (σ : HS)  (r : Nat) (hσ : zOk σ) (hr8 : r < zN σ) : Met l yX2_requireRoom wsX2_requireRoom ({ frames := 0, cells := 0, slots := 0, locals := 0 }) (RdP D cZ cI [.ref a, .int (nI r)] (pD cZ cI a o o' q κ ω ω' σ)) (va_Sv (fun _ => True)) 0 0 (fun _ => False) := by
  refine Met.ofW (cc := cX2_requireRoom) (maxL := 2) (ret := none) (by decide) rfl ?_
  intro p e s m args below meth c s₁ B hml hv
  obtain ⟨rfl, hP, hZ⟩ := hv
  have hx := B.exec
  have hb := B.bytes
  have hr := B.returns
  have hts := atoms_spec (ws := wsX2_requireRoom) B.pre
  have hown : s.vm.findClass RX2 = some m.cls := findClass_of_methodNamed B.named
  have hlocks := B.notSynchronized
  have hP : va_P D vwCl (pD cZ cI a o o' q κ ω ω' σ) s.heap := hP
  have hl := lv_entry ([.ref a, .int (nI r)]) (n := 2) (Nat.le_of_ble_eq_true rfl)
  rw [lg_entry_eq]
  generalize (lg_sl ([.ref a, .int (nI r)]) ++ List.replicate (2 - (lg_sl ([.ref a, .int (nI r)])).length) Slot.unset).toArray = ls at hl ⊢
  have hl : lv_has ls 2 [(0, .ref a), (1, .int (nI r))] := hl
  have hin2 : ∀ w ∈ u_ws RX2 TX2 9, w ∈ wsX2_requireRoom := by decide +kernel
  have hin0 : ∀ w ∈ u_ws RX0 TX0 9, w ∈ wsX2_requireRoom := by decide +kernel
  have hf10 := hts (.fieldLink RX2 10 "DoorChase" "house" "LDoorChase$House;") (by decide +kernel)
  have hf33 := hts (.fieldLink RX2 33 "DoorChase$House" "roomCount" "I") (by decide +kernel)
  obtain ⟨hσ1, hσ2, hσ3, hσ4, hσ5, hσ6, hσ7⟩ := id hσ
  refine lv_iload_n hx hb dX2_requireRoom_0 rfl (lv_at hl 1 rfl) ?_
  refine rv_ifltN (tgt := 15) hx hb (by omega) dX2_requireRoom_1 (by decide) ?_
  refine lv_iload_n hx hb dX2_requireRoom_4 rfl (lv_at hl 1 rfl) ?_
  refine lv_aload_n hx hb dX2_requireRoom_5 rfl (lv_at hl 0 rfl) ?_
  refine va_get (D := D) (ci := 2) (v := .ref (q 0)) (C := RX2) (T := TX2) (N := 9) hx hb hts hin2 hown hZ.1 hP 0 rfl rfl 0 (by decide) hf10 (fun _ h9 => h9) rfl dX2_requireRoom_6 ?_
  refine va_get (D := D) (ci := 0) (v := .int (nI (zN σ))) (C := RX0) (T := TX0) (N := 9) hx hb hts hin0 hown hZ.1 hP 11 rfl rfl 0 (by decide) hf33 (fun _ h9 => h9) rfl dX2_requireRoom_9 ?_
  refine rv_lt (tgt := 26) hx hb (by omega) (by omega) dX2_requireRoom_12 (by decide) (fun c12_2 => ?_) (fun c12_2 => ?_)
  · skip
    exact W.vret hx hb hr (fun t ht hW => ⟨rfl, trivial, ht⟩) (fun q h => absurd h List.not_mem_nil) dX2_requireRoom_26
  · skip
    exfalso; omega

set_option maxHeartbeats 4000000 in
set_option maxRecDepth 100000 in
theorem c_X2_requireDoor (l : Launch) (D : va_G) (cZ cI : ClassId) (a : Nat) (o : Nat → Nat) (o' : Nat → Nat) (q : Nat → Nat) (κ : CS) (ω : OS) (ω' : OS) (σ : HS)  (d : Nat) (hσ : zOk σ) (hd8 : d < zM σ) : Met l yX2_requireDoor wsX2_requireDoor ({ frames := 0, cells := 0, slots := 0, locals := 0 }) (RdP D cZ cI [.ref a, .int (nI d)] (pD cZ cI a o o' q κ ω ω' σ)) (va_Sv (fun _ => True)) 0 0 (fun _ => False) := by
  refine Met.ofW (cc := cX2_requireDoor) (maxL := 2) (ret := none) (by decide) rfl ?_
  intro p e s m args below meth c s₁ B hml hv
  obtain ⟨rfl, hP, hZ⟩ := hv
  have hx := B.exec
  have hb := B.bytes
  have hr := B.returns
  have hts := atoms_spec (ws := wsX2_requireDoor) B.pre
  have hown : s.vm.findClass RX2 = some m.cls := findClass_of_methodNamed B.named
  have hlocks := B.notSynchronized
  have hP : va_P D vwCl (pD cZ cI a o o' q κ ω ω' σ) s.heap := hP
  have hl := lv_entry ([.ref a, .int (nI d)]) (n := 2) (Nat.le_of_ble_eq_true rfl)
  rw [lg_entry_eq]
  generalize (lg_sl ([.ref a, .int (nI d)]) ++ List.replicate (2 - (lg_sl ([.ref a, .int (nI d)])).length) Slot.unset).toArray = ls at hl ⊢
  have hl : lv_has ls 2 [(0, .ref a), (1, .int (nI d))] := hl
  have hin2 : ∀ w ∈ u_ws RX2 TX2 9, w ∈ wsX2_requireDoor := by decide +kernel
  have hin0 : ∀ w ∈ u_ws RX0 TX0 9, w ∈ wsX2_requireDoor := by decide +kernel
  have hf10 := hts (.fieldLink RX2 10 "DoorChase" "house" "LDoorChase$House;") (by decide +kernel)
  have hf62 := hts (.fieldLink RX2 62 "DoorChase$House" "doorCount" "I") (by decide +kernel)
  obtain ⟨hσ1, hσ2, hσ3, hσ4, hσ5, hσ6, hσ7⟩ := id hσ
  refine lv_iload_n hx hb dX2_requireDoor_0 rfl (lv_at hl 1 rfl) ?_
  refine rv_ifltN (tgt := 15) hx hb (by omega) dX2_requireDoor_1 (by decide) ?_
  refine lv_iload_n hx hb dX2_requireDoor_4 rfl (lv_at hl 1 rfl) ?_
  refine lv_aload_n hx hb dX2_requireDoor_5 rfl (lv_at hl 0 rfl) ?_
  refine va_get (D := D) (ci := 2) (v := .ref (q 0)) (C := RX2) (T := TX2) (N := 9) hx hb hts hin2 hown hZ.1 hP 0 rfl rfl 0 (by decide) hf10 (fun _ h9 => h9) rfl dX2_requireDoor_6 ?_
  refine va_get (D := D) (ci := 0) (v := .int (nI (zM σ))) (C := RX0) (T := TX0) (N := 9) hx hb hts hin0 hown hZ.1 hP 11 rfl rfl 3 (by decide) hf62 (fun _ h9 => h9) rfl dX2_requireDoor_9 ?_
  refine rv_lt (tgt := 26) hx hb (by omega) (by omega) dX2_requireDoor_12 (by decide) (fun c12_2 => ?_) (fun c12_2 => ?_)
  · skip
    exact W.vret hx hb hr (fun t ht hW => ⟨rfl, trivial, ht⟩) (fun q h => absurd h List.not_mem_nil) dX2_requireDoor_26
  · skip
    exfalso; omega

set_option maxHeartbeats 4000000 in
set_option maxRecDepth 100000 in
theorem c_X2_requireCatsRoom (l : Launch) (D : va_G) (cZ cI : ClassId) (a : Nat) (o : Nat → Nat) (o' : Nat → Nat) (q : Nat → Nat) (κ : CS) (ω : OS) (ω' : OS) (σ : HS)  (r : Nat) (hσ : zOk σ) (hr8 : r < zN σ) (hs8 : zS σ r = false) : Met l yX2_requireCatsRoom wsX2_requireCatsRoom ({ frames := 0, cells := 0, slots := 0, locals := 0 }) (RdP D cZ cI [.ref a, .int (nI r)] (pD cZ cI a o o' q κ ω ω' σ)) (va_Sv (fun _ => True)) 0 0 (fun _ => False) := by
  refine Met.ofW (cc := cX2_requireCatsRoom) (maxL := 2) (ret := none) (by decide) rfl ?_
  intro p e s m args below meth c s₁ B hml hv
  obtain ⟨rfl, hP, hZ⟩ := hv
  have hx := B.exec
  have hb := B.bytes
  have hr := B.returns
  have hts := atoms_spec (ws := wsX2_requireCatsRoom) B.pre
  have hown : s.vm.findClass RX2 = some m.cls := findClass_of_methodNamed B.named
  have hlocks := B.notSynchronized
  have hP : va_P D vwCl (pD cZ cI a o o' q κ ω ω' σ) s.heap := hP
  have hl := lv_entry ([.ref a, .int (nI r)]) (n := 2) (Nat.le_of_ble_eq_true rfl)
  rw [lg_entry_eq]
  generalize (lg_sl ([.ref a, .int (nI r)]) ++ List.replicate (2 - (lg_sl ([.ref a, .int (nI r)])).length) Slot.unset).toArray = ls at hl ⊢
  have hl : lv_has ls 2 [(0, .ref a), (1, .int (nI r))] := hl
  have hin2 : ∀ w ∈ u_ws RX2 TX2 9, w ∈ wsX2_requireCatsRoom := by decide +kernel
  have hin0 : ∀ w ∈ u_ws RX0 TX0 9, w ∈ wsX2_requireCatsRoom := by decide +kernel
  have hf10 := hts (.fieldLink RX2 10 "DoorChase" "house" "LDoorChase$House;") (by decide +kernel)
  have hf142 := hts (.fieldLink RX2 142 "DoorChase$House" "safe" "[Z") (by decide +kernel)
  obtain ⟨hσ1, hσ2, hσ3, hσ4, hσ5, hσ6, hσ7⟩ := id hσ
  refine lv_aload_n hx hb dX2_requireCatsRoom_0 rfl (lv_at hl 0 rfl) ?_
  refine va_get (D := D) (ci := 2) (v := .ref (q 0)) (C := RX2) (T := TX2) (N := 9) hx hb hts hin2 hown hZ.1 hP 0 rfl rfl 0 (by decide) hf10 (fun _ h9 => h9) rfl dX2_requireCatsRoom_1 ?_
  refine va_get (D := D) (ci := 0) (v := .ref (q 1)) (C := RX0) (T := TX0) (N := 9) hx hb hts hin0 hown hZ.1 hP 11 rfl rfl 1 (by decide) hf142 (fun _ h9 => h9) rfl dX2_requireCatsRoom_4 ?_
  refine lv_iload_n hx hb dX2_requireCatsRoom_7 rfl (lv_at hl 1 rfl) ?_
  refine rv_zald hx hb hZ.1 hP 12 0 rfl rfl (r := r) (by omega) (by decide) (v := bI ((zS σ) r)) rfl dX2_requireCatsRoom_8 ?_
  refine rv_ifeqB (tgt := 23) hx hb dX2_requireCatsRoom_9 (by decide) (fun c9_1 => ?_) (fun c9_1 => ?_)
  · skip
    exact W.vret hx hb hr (fun t ht hW => ⟨rfl, trivial, ht⟩) (fun q h => absurd h List.not_mem_nil) dX2_requireCatsRoom_23
  · skip
    exact Bool.noConfusion (hs8.symm.trans c9_1)

set_option maxHeartbeats 4000000 in
set_option maxRecDepth 100000 in
theorem c_X2_requireChase (l : Launch) (D : va_G) (cZ cI : ClassId) (a : Nat) (o : Nat → Nat) (o' : Nat → Nat) (q : Nat → Nat) (nw : Nat) (cg : Bool) (ct : Nat) (mo : Nat) (ea : Nat) (ω : OS) (ω' : OS) (σ : HS)    : Met l yX2_requireChase wsX2_requireChase ({ frames := 0, cells := 0, slots := 0, locals := 0 }) (RdP D cZ cI [.ref a] (pD cZ cI a o o' q (nw, true, cg, some ct, some mo, ea) ω ω' σ)) (va_Sv (fun _ => True)) 0 0 (fun _ => False) := by
  refine Met.ofW (cc := cX2_requireChase) (maxL := 1) (ret := none) (by decide) rfl ?_
  intro p e s m args below meth c s₁ B hml hv
  obtain ⟨rfl, hP, hZ⟩ := hv
  have hx := B.exec
  have hb := B.bytes
  have hr := B.returns
  have hts := atoms_spec (ws := wsX2_requireChase) B.pre
  have hown : s.vm.findClass RX2 = some m.cls := findClass_of_methodNamed B.named
  have hlocks := B.notSynchronized
  have hP : va_P D vwCl (pD cZ cI a o o' q (nw, true, cg, some ct, some mo, ea) ω ω' σ) s.heap := hP
  have hl := lv_entry ([.ref a]) (n := 1) (Nat.le_of_ble_eq_true rfl)
  rw [lg_entry_eq]
  generalize (lg_sl ([.ref a]) ++ List.replicate (1 - (lg_sl ([.ref a])).length) Slot.unset).toArray = ls at hl ⊢
  have hl : lv_has ls 1 [(0, .ref a)] := hl
  have hin2 : ∀ w ∈ u_ws RX2 TX2 9, w ∈ wsX2_requireChase := by decide +kernel
  have hf107 := hts (.fieldLink RX2 107 "DoorChase" "isGoingOn" "Z") (by decide +kernel)
  refine lv_aload_n hx hb dX2_requireChase_0 rfl (lv_at hl 0 rfl) ?_
  refine va_get (D := D) (ci := 2) (v := .int (bI true)) (C := RX2) (T := TX2) (N := 9) hx hb hts hin2 hown hZ.1 hP 0 rfl rfl 4 (by decide) hf107 (fun _ h9 => h9) rfl dX2_requireChase_1 ?_
  refine rv_ifneB (tgt := 18) hx hb dX2_requireChase_4 (by decide) (fun c4_1 => ?_) (fun c4_1 => ?_)
  · skip
    exact W.vret hx hb hr (fun t ht hW => ⟨rfl, trivial, ht⟩) (fun q h => absurd h List.not_mem_nil) dX2_requireChase_18
  · skip
    exact Bool.noConfusion c4_1

set_option maxHeartbeats 4000000 in
set_option maxRecDepth 100000 in
theorem c_X2_whoGoesIn (l : Launch) (D : va_G) (cZ cI : ClassId) (a : Nat) (o : Nat → Nat) (o' : Nat → Nat) (q : Nat → Nat) (nw : Nat) (cg : Bool) (ct : Nat) (mo : Nat) (ea : Nat) (ω : OS) (ω' : OS) (σ : HS)   (hnw : nw < 2 ^ 30) : Met l yX2_whoGoesIn wsX2_whoGoesIn ({ frames := 2, cells := 0, slots := 0, locals := 40 }) (RdP D cZ cI [.ref a] (pD cZ cI a o o' q (nw, true, cg, some ct, some mo, ea) ω ω' σ)) (vp_Si (fun r0 => r0 = nI (whoF nw ct mo))) 0 0 (fun _ => False) := by
  refine Met.ofW (cc := cX2_whoGoesIn) (maxL := 1) (ret := (some .int)) (by decide) rfl ?_
  intro p e s m args below meth c s₁ B hml hv
  obtain ⟨rfl, hP, hZ⟩ := hv
  have hx := B.exec
  have hb := B.bytes
  have hr := B.returns
  have hts := atoms_spec (ws := wsX2_whoGoesIn) B.pre
  have hown : s.vm.findClass RX2 = some m.cls := findClass_of_methodNamed B.named
  have hlocks := B.notSynchronized
  have hP : va_P D vwCl (pD cZ cI a o o' q (nw, true, cg, some ct, some mo, ea) ω ω' σ) s.heap := hP
  have hl := lv_entry ([.ref a]) (n := 1) (Nat.le_of_ble_eq_true rfl)
  rw [lg_entry_eq]
  generalize (lg_sl ([.ref a]) ++ List.replicate (1 - (lg_sl ([.ref a])).length) Slot.unset).toArray = ls at hl ⊢
  have hl : lv_has ls 1 [(0, .ref a)] := hl
  have hin2 : ∀ w ∈ u_ws RX2 TX2 9, w ∈ wsX2_whoGoesIn := by decide +kernel
  have hf26 := hts (.fieldLink RX2 26 "DoorChase" "cat" "I") (by decide +kernel)
  have hf30 := hts (.fieldLink RX2 30 "DoorChase" "mouse" "I") (by decide +kernel)
  refine lv_aload_n hx hb dX2_whoGoesIn_0 rfl (lv_at hl 0 rfl) ?_
  refine vp_callSi (va_runV (As := []) (rest := []) ⟨hx, hb, hml, hown, hts⟩ (c_X2_isCatsTurn l D cZ cI a o o' q (nw, true, cg, some ct, some mo, ea) ω ω' σ   (by first | assumption | omega)) (cwV 0 hts gX2_whoGoesIn_X2_isCatsTurn rfl rfl rfl (by decide +kernel) ⟨Nat.le_of_ble_eq_true rfl, Nat.le_of_ble_eq_true rfl⟩) ⟨RdP_blind, va_recv hZ.1 hP (ci := 2) (q0 := 0) rfl rfl, RdP_start (hP.sub (ws' := pD cZ cI a o o' q (nw, true, cg, some ct, some mo, ea) ω ω' σ) [0, 1, 2, 3, 4, 5, 6, 7, 8, 9, 10, 11, 12, 13, 14, 15, 16, 17, 18] rfl) hZ⟩ rfl rfl hl.1 rfl (lv_room (Nat.le_of_ble_eq_true rfl)) dX2_whoGoesIn_1 ⟨Nat.le_of_ble_eq_true rfl, Nat.le_of_ble_eq_true rfl⟩).run (fun r_1 hr_2 => ?_)
  subst hr_2
  refine rv_top (show _ = bI (isC (nw)) from rfl) ?_
  refine rv_ifeqB (tgt := 14) hx hb dX2_whoGoesIn_4 (by decide) (fun c4_3 => ?_) (fun c4_3 => ?_)
  · skip
    refine lv_aload_n hx hb dX2_whoGoesIn_14 rfl (lv_at hl 0 rfl) ?_
    refine va_get (D := D) (ci := 2) (v := .int (nI mo)) (C := RX2) (T := TX2) (N := 9) hx hb hts hin2 hown hZ.1 hP 0 rfl rfl 7 (by decide) hf30 (fun _ h9 => h9) rfl dX2_whoGoesIn_15 ?_
    exact W.iret (v := nI mo) hx hb hr (fun t ht hW => ⟨_, rfl, (show nI mo = nI (whoF nw ct mo) from by simp [whoF, c4_3]), ht⟩) (fun q h => absurd h List.not_mem_nil) dX2_whoGoesIn_18
  · skip
    refine lv_aload_n hx hb dX2_whoGoesIn_7 rfl (lv_at hl 0 rfl) ?_
    refine va_get (D := D) (ci := 2) (v := .int (nI ct)) (C := RX2) (T := TX2) (N := 9) hx hb hts hin2 hown hZ.1 hP 0 rfl rfl 6 (by decide) hf26 (fun _ h9 => h9) rfl dX2_whoGoesIn_8 ?_
    refine lv_goto (tgt := 18) hx hb dX2_whoGoesIn_11 (by decide) ?_
    exact W.iret (v := nI ct) hx hb hr (fun t ht hW => ⟨_, rfl, (show nI ct = nI (whoF nw ct mo) from by simp [whoF, c4_3]), ht⟩) (fun q h => absurd h List.not_mem_nil) dX2_whoGoesIn_18

set_option maxHeartbeats 4000000 in
set_option maxRecDepth 100000 in
theorem c_X2_isSafe (l : Launch) (D : va_G) (cZ cI : ClassId) (a : Nat) (o : Nat → Nat) (o' : Nat → Nat) (q : Nat → Nat) (κ : CS) (ω : OS) (ω' : OS) (σ : HS)  (r : Nat) (hσ : zOk σ) (hr8 : r < zN σ) : Met l yX2_isSafe wsX2_isSafe ({ frames := 1, cells := 0, slots := 0, locals := 21 }) (RdP D cZ cI [.ref a, .int (nI r)] (pD cZ cI a o o' q κ ω ω' σ)) (vp_Si (fun r0 => r0 = bI (zS σ r))) 0 0 (fun _ => False) := by
  refine Met.ofW (cc := cX2_isSafe) (maxL := 2) (ret := (some .boolean)) (by decide) rfl ?_
  intro p e s m args below meth c s₁ B hml hv
  obtain ⟨rfl, hP, hZ⟩ := hv
  have hx := B.exec
  have hb := B.bytes
  have hr := B.returns
  have hts := atoms_spec (ws := wsX2_isSafe) B.pre
  have hown : s.vm.findClass RX2 = some m.cls := findClass_of_methodNamed B.named
  have hlocks := B.notSynchronized
  have hP : va_P D vwCl (pD cZ cI a o o' q κ ω ω' σ) s.heap := hP
  have hl := lv_entry ([.ref a, .int (nI r)]) (n := 2) (Nat.le_of_ble_eq_true rfl)
  rw [lg_entry_eq]
  generalize (lg_sl ([.ref a, .int (nI r)]) ++ List.replicate (2 - (lg_sl ([.ref a, .int (nI r)])).length) Slot.unset).toArray = ls at hl ⊢
  have hl : lv_has ls 2 [(0, .ref a), (1, .int (nI r))] := hl
  have hin2 : ∀ w ∈ u_ws RX2 TX2 9, w ∈ wsX2_isSafe := by decide +kernel
  have hin0 : ∀ w ∈ u_ws RX0 TX0 9, w ∈ wsX2_isSafe := by decide +kernel
  have hf10 := hts (.fieldLink RX2 10 "DoorChase" "house" "LDoorChase$House;") (by decide +kernel)
  have hf142 := hts (.fieldLink RX2 142 "DoorChase$House" "safe" "[Z") (by decide +kernel)
  obtain ⟨hσ1, hσ2, hσ3, hσ4, hσ5, hσ6, hσ7⟩ := id hσ
  refine lv_aload_n hx hb dX2_isSafe_0 rfl (lv_at hl 0 rfl) ?_
  refine lv_iload_n hx hb dX2_isSafe_1 rfl (lv_at hl 1 rfl) ?_
  refine va_csv (va_runV (As := [.int (nI r)]) (rest := []) ⟨hx, hb, hml, hown, hts⟩ (c_X2_requireRoom l D cZ cI a o o' q κ ω ω' σ  r (by first | assumption | omega) (by first | assumption | omega)) (cwV 1 hts gX2_isSafe_X2_requireRoom rfl rfl rfl (by decide +kernel) ⟨Nat.le_of_ble_eq_true rfl, Nat.le_of_ble_eq_true rfl⟩) ⟨RdP_blind, va_recv hZ.1 hP (ci := 2) (q0 := 0) rfl rfl, RdP_start (hP.sub (ws' := pD cZ cI a o o' q κ ω ω' σ) [0, 1, 2, 3, 4, 5, 6, 7, 8, 9, 10, 11, 12, 13, 14, 15, 16, 17, 18] rfl) hZ⟩ rfl rfl hl.1 rfl (lv_room (Nat.le_of_ble_eq_true rfl)) dX2_isSafe_2 ⟨Nat.le_of_ble_eq_true rfl, Nat.le_of_ble_eq_true rfl⟩).run (fun _ => ?_)
  refine lv_aload_n hx hb dX2_isSafe_5 rfl (lv_at hl 0 rfl) ?_
  refine va_get (D := D) (ci := 2) (v := .ref (q 0)) (C := RX2) (T := TX2) (N := 9) hx hb hts hin2 hown hZ.1 hP 0 rfl rfl 0 (by decide) hf10 (fun _ h9 => h9) rfl dX2_isSafe_6 ?_
  refine va_get (D := D) (ci := 0) (v := .ref (q 1)) (C := RX0) (T := TX0) (N := 9) hx hb hts hin0 hown hZ.1 hP 11 rfl rfl 1 (by decide) hf142 (fun _ h9 => h9) rfl dX2_isSafe_9 ?_
  refine lv_iload_n hx hb dX2_isSafe_12 rfl (lv_at hl 1 rfl) ?_
  refine rv_zald hx hb hZ.1 hP 12 0 rfl rfl (r := r) (by omega) (by decide) (v := bI ((zS σ) r)) rfl dX2_isSafe_13 ?_
  exact W.zret (v := bI ((zS σ) r)) hx hb hr (nr_bI _) (fun t ht hW => ⟨_, rfl, rfl, ht⟩) (fun q h => absurd h List.not_mem_nil) dX2_isSafe_14

set_option maxHeartbeats 4000000 in
set_option maxRecDepth 100000 in
theorem c_X2_cheeseIn (l : Launch) (D : va_G) (cZ cI : ClassId) (a : Nat) (o : Nat → Nat) (o' : Nat → Nat) (q : Nat → Nat) (κ : CS) (ω : OS) (ω' : OS) (σ : HS)  (r : Nat) (hσ : zOk σ) (hr8 : r < zN σ) : Met l yX2_cheeseIn wsX2_cheeseIn ({ frames := 1, cells := 0, slots := 0, locals := 21 }) (RdP D cZ cI [.ref a, .int (nI r)] (pD cZ cI a o o' q κ ω ω' σ)) (vp_Si (fun r0 => r0 = nI (zC σ r))) 0 0 (fun _ => False) := by
  refine Met.ofW (cc := cX2_cheeseIn) (maxL := 2) (ret := (some .int)) (by decide) rfl ?_
  intro p e s m args below meth c s₁ B hml hv
  obtain ⟨rfl, hP, hZ⟩ := hv
  have hx := B.exec
  have hb := B.bytes
  have hr := B.returns
  have hts := atoms_spec (ws := wsX2_cheeseIn) B.pre
  have hown : s.vm.findClass RX2 = some m.cls := findClass_of_methodNamed B.named
  have hlocks := B.notSynchronized
  have hP : va_P D vwCl (pD cZ cI a o o' q κ ω ω' σ) s.heap := hP
  have hl := lv_entry ([.ref a, .int (nI r)]) (n := 2) (Nat.le_of_ble_eq_true rfl)
  rw [lg_entry_eq]
  generalize (lg_sl ([.ref a, .int (nI r)]) ++ List.replicate (2 - (lg_sl ([.ref a, .int (nI r)])).length) Slot.unset).toArray = ls at hl ⊢
  have hl : lv_has ls 2 [(0, .ref a), (1, .int (nI r))] := hl
  have hin2 : ∀ w ∈ u_ws RX2 TX2 9, w ∈ wsX2_cheeseIn := by decide +kernel
  have hin0 : ∀ w ∈ u_ws RX0 TX0 9, w ∈ wsX2_cheeseIn := by decide +kernel
  have hf10 := hts (.fieldLink RX2 10 "DoorChase" "house" "LDoorChase$House;") (by decide +kernel)
  have hf86 := hts (.fieldLink RX2 86 "DoorChase$House" "cheese" "[I") (by decide +kernel)
  obtain ⟨hσ1, hσ2, hσ3, hσ4, hσ5, hσ6, hσ7⟩ := id hσ
  refine lv_aload_n hx hb dX2_cheeseIn_0 rfl (lv_at hl 0 rfl) ?_
  refine lv_iload_n hx hb dX2_cheeseIn_1 rfl (lv_at hl 1 rfl) ?_
  refine va_csv (va_runV (As := [.int (nI r)]) (rest := []) ⟨hx, hb, hml, hown, hts⟩ (c_X2_requireRoom l D cZ cI a o o' q κ ω ω' σ  r (by first | assumption | omega) (by first | assumption | omega)) (cwV 1 hts gX2_cheeseIn_X2_requireRoom rfl rfl rfl (by decide +kernel) ⟨Nat.le_of_ble_eq_true rfl, Nat.le_of_ble_eq_true rfl⟩) ⟨RdP_blind, va_recv hZ.1 hP (ci := 2) (q0 := 0) rfl rfl, RdP_start (hP.sub (ws' := pD cZ cI a o o' q κ ω ω' σ) [0, 1, 2, 3, 4, 5, 6, 7, 8, 9, 10, 11, 12, 13, 14, 15, 16, 17, 18] rfl) hZ⟩ rfl rfl hl.1 rfl (lv_room (Nat.le_of_ble_eq_true rfl)) dX2_cheeseIn_2 ⟨Nat.le_of_ble_eq_true rfl, Nat.le_of_ble_eq_true rfl⟩).run (fun _ => ?_)
  refine lv_aload_n hx hb dX2_cheeseIn_5 rfl (lv_at hl 0 rfl) ?_
  refine va_get (D := D) (ci := 2) (v := .ref (q 0)) (C := RX2) (T := TX2) (N := 9) hx hb hts hin2 hown hZ.1 hP 0 rfl rfl 0 (by decide) hf10 (fun _ h9 => h9) rfl dX2_cheeseIn_6 ?_
  refine va_get (D := D) (ci := 0) (v := .ref (q 2)) (C := RX0) (T := TX0) (N := 9) hx hb hts hin0 hown hZ.1 hP 11 rfl rfl 2 (by decide) hf86 (fun _ h9 => h9) rfl dX2_cheeseIn_9 ?_
  refine lv_iload_n hx hb dX2_cheeseIn_12 rfl (lv_at hl 1 rfl) ?_
  refine rv_iald hx hb hZ.1 hP 13 1 rfl rfl (r := r) (by omega) (by decide) (v := nI ((zC σ) r)) rfl dX2_cheeseIn_13 ?_
  exact W.iret (v := nI ((zC σ) r)) hx hb hr (fun t ht hW => ⟨_, rfl, rfl, ht⟩) (fun q h => absurd h List.not_mem_nil) dX2_cheeseIn_14

set_option maxHeartbeats 4000000 in
set_option maxRecDepth 100000 in
theorem c_X2_doorsOf (l : Launch) (D : va_G) (cZ cI : ClassId) (a : Nat) (o : Nat → Nat) (o' : Nat → Nat) (q : Nat → Nat) (κ : CS) (ω : OS) (ω' : OS) (σ : HS)  (r : Nat) (hσ : zOk σ) (hr8 : r < zN σ) : Met l yX2_doorsOf wsX2_doorsOf ({ frames := 1, cells := 0, slots := 0, locals := 23 }) (RdP D cZ cI [.ref a, .int (nI r)] (pD cZ cI a o o' q κ ω ω' σ)) (vp_Si (fun r0 => r0 = nI (hDoors σ r))) 0 0 (fun _ => False) := by
  refine Met.ofW (cc := cX2_doorsOf) (maxL := 2) (ret := (some .int)) (by decide) rfl ?_
  intro p e s m args below meth c s₁ B hml hv
  obtain ⟨rfl, hP, hZ⟩ := hv
  have hx := B.exec
  have hb := B.bytes
  have hr := B.returns
  have hts := atoms_spec (ws := wsX2_doorsOf) B.pre
  have hown : s.vm.findClass RX2 = some m.cls := findClass_of_methodNamed B.named
  have hlocks := B.notSynchronized
  have hP : va_P D vwCl (pD cZ cI a o o' q κ ω ω' σ) s.heap := hP
  have hl := lv_entry ([.ref a, .int (nI r)]) (n := 2) (Nat.le_of_ble_eq_true rfl)
  rw [lg_entry_eq]
  generalize (lg_sl ([.ref a, .int (nI r)]) ++ List.replicate (2 - (lg_sl ([.ref a, .int (nI r)])).length) Slot.unset).toArray = ls at hl ⊢
  have hl : lv_has ls 2 [(0, .ref a), (1, .int (nI r))] := hl
  have hin2 : ∀ w ∈ u_ws RX2 TX2 9, w ∈ wsX2_doorsOf := by decide +kernel
  have hf10 := hts (.fieldLink RX2 10 "DoorChase" "house" "LDoorChase$House;") (by decide +kernel)
  obtain ⟨hσ1, hσ2, hσ3, hσ4, hσ5, hσ6, hσ7⟩ := id hσ
  refine lv_aload_n hx hb dX2_doorsOf_0 rfl (lv_at hl 0 rfl) ?_
  refine lv_iload_n hx hb dX2_doorsOf_1 rfl (lv_at hl 1 rfl) ?_
  refine va_csv (va_runV (As := [.int (nI r)]) (rest := []) ⟨hx, hb, hml, hown, hts⟩ (c_X2_requireRoom l D cZ cI a o o' q κ ω ω' σ  r (by first | assumption | omega) (by first | assumption | omega)) (cwV 1 hts gX2_doorsOf_X2_requireRoom rfl rfl rfl (by decide +kernel) ⟨Nat.le_of_ble_eq_true rfl, Nat.le_of_ble_eq_true rfl⟩) ⟨RdP_blind, va_recv hZ.1 hP (ci := 2) (q0 := 0) rfl rfl, RdP_start (hP.sub (ws' := pD cZ cI a o o' q κ ω ω' σ) [0, 1, 2, 3, 4, 5, 6, 7, 8, 9, 10, 11, 12, 13, 14, 15, 16, 17, 18] rfl) hZ⟩ rfl rfl hl.1 rfl (lv_room (Nat.le_of_ble_eq_true rfl)) dX2_doorsOf_2 ⟨Nat.le_of_ble_eq_true rfl, Nat.le_of_ble_eq_true rfl⟩).run (fun _ => ?_)
  refine lv_aload_n hx hb dX2_doorsOf_5 rfl (lv_at hl 0 rfl) ?_
  refine va_get (D := D) (ci := 2) (v := .ref (q 0)) (C := RX2) (T := TX2) (N := 9) hx hb hts hin2 hown hZ.1 hP 0 rfl rfl 0 (by decide) hf10 (fun _ h9 => h9) rfl dX2_doorsOf_6 ?_
  refine lv_iload_n hx hb dX2_doorsOf_9 rfl (lv_at hl 1 rfl) ?_
  refine vp_callSi (va_runV (As := [.int (nI r)]) (rest := []) ⟨hx, hb, hml, hown, hts⟩ (c_X0_unlockedDoorsAt l D cZ cI q σ  r (by first | assumption | omega) (by first | assumption | omega)) (cwV 1 hts gX2_doorsOf_X0_unlockedDoorsAt rfl rfl rfl (by decide +kernel) ⟨Nat.le_of_ble_eq_true rfl, Nat.le_of_ble_eq_true rfl⟩) ⟨RdP_blind, va_recv hZ.1 hP (ci := 0) (q0 := 11) rfl rfl, RdP_start (hP.sub (ws' := pH cZ cI q σ) [11, 12, 13, 14, 15, 16, 17, 18] rfl) hZ⟩ rfl rfl hl.1 rfl (lv_room (Nat.le_of_ble_eq_true rfl)) dX2_doorsOf_10 ⟨Nat.le_of_ble_eq_true rfl, Nat.le_of_ble_eq_true rfl⟩).run (fun r_3 hr_4 => ?_)
  subst hr_4
  refine rv_top (show _ = nI (hDoors σ r) from rfl) ?_
  exact W.iret (v := nI (hDoors σ r)) hx hb hr (fun t ht hW => ⟨_, rfl, rfl, ht⟩) (fun q h => absurd h List.not_mem_nil) dX2_doorsOf_13

set_option maxHeartbeats 4000000 in
set_option maxRecDepth 100000 in
theorem c_X2_isLocked (l : Launch) (D : va_G) (cZ cI : ClassId) (a : Nat) (o : Nat → Nat) (o' : Nat → Nat) (q : Nat → Nat) (κ : CS) (ω : OS) (ω' : OS) (σ : HS)  (d : Nat) (hσ : zOk σ) (hd8 : d < zM σ) : Met l yX2_isLocked wsX2_isLocked ({ frames := 1, cells := 0, slots := 0, locals := 21 }) (RdP D cZ cI [.ref a, .int (nI d)] (pD cZ cI a o o' q κ ω ω' σ)) (vp_Si (fun r0 => r0 = bI (zL σ d))) 0 0 (fun _ => False) := by
  refine Met.ofW (cc := cX2_isLocked) (maxL := 2) (ret := (some .boolean)) (by decide) rfl ?_
  intro p e s m args below meth c s₁ B hml hv
  obtain ⟨rfl, hP, hZ⟩ := hv
  have hx := B.exec
  have hb := B.bytes
  have hr := B.returns
  have hts := atoms_spec (ws := wsX2_isLocked) B.pre
  have hown : s.vm.findClass RX2 = some m.cls := findClass_of_methodNamed B.named
  have hlocks := B.notSynchronized
  have hP : va_P D vwCl (pD cZ cI a o o' q κ ω ω' σ) s.heap := hP
  have hl := lv_entry ([.ref a, .int (nI d)]) (n := 2) (Nat.le_of_ble_eq_true rfl)
  rw [lg_entry_eq]
  generalize (lg_sl ([.ref a, .int (nI d)]) ++ List.replicate (2 - (lg_sl ([.ref a, .int (nI d)])).length) Slot.unset).toArray = ls at hl ⊢
  have hl : lv_has ls 2 [(0, .ref a), (1, .int (nI d))] := hl
  have hin2 : ∀ w ∈ u_ws RX2 TX2 9, w ∈ wsX2_isLocked := by decide +kernel
  have hin0 : ∀ w ∈ u_ws RX0 TX0 9, w ∈ wsX2_isLocked := by decide +kernel
  have hf10 := hts (.fieldLink RX2 10 "DoorChase" "house" "LDoorChase$House;") (by decide +kernel)
  have hf80 := hts (.fieldLink RX2 80 "DoorChase$House" "locked" "[Z") (by decide +kernel)
  obtain ⟨hσ1, hσ2, hσ3, hσ4, hσ5, hσ6, hσ7⟩ := id hσ
  refine lv_aload_n hx hb dX2_isLocked_0 rfl (lv_at hl 0 rfl) ?_
  refine lv_iload_n hx hb dX2_isLocked_1 rfl (lv_at hl 1 rfl) ?_
  refine va_csv (va_runV (As := [.int (nI d)]) (rest := []) ⟨hx, hb, hml, hown, hts⟩ (c_X2_requireDoor l D cZ cI a o o' q κ ω ω' σ  d (by first | assumption | omega) (by first | assumption | omega)) (cwV 1 hts gX2_isLocked_X2_requireDoor rfl rfl rfl (by decide +kernel) ⟨Nat.le_of_ble_eq_true rfl, Nat.le_of_ble_eq_true rfl⟩) ⟨RdP_blind, va_recv hZ.1 hP (ci := 2) (q0 := 0) rfl rfl, RdP_start (hP.sub (ws' := pD cZ cI a o o' q κ ω ω' σ) [0, 1, 2, 3, 4, 5, 6, 7, 8, 9, 10, 11, 12, 13, 14, 15, 16, 17, 18] rfl) hZ⟩ rfl rfl hl.1 rfl (lv_room (Nat.le_of_ble_eq_true rfl)) dX2_isLocked_2 ⟨Nat.le_of_ble_eq_true rfl, Nat.le_of_ble_eq_true rfl⟩).run (fun _ => ?_)
  refine lv_aload_n hx hb dX2_isLocked_5 rfl (lv_at hl 0 rfl) ?_
  refine va_get (D := D) (ci := 2) (v := .ref (q 0)) (C := RX2) (T := TX2) (N := 9) hx hb hts hin2 hown hZ.1 hP 0 rfl rfl 0 (by decide) hf10 (fun _ h9 => h9) rfl dX2_isLocked_6 ?_
  refine va_get (D := D) (ci := 0) (v := .ref (q 7)) (C := RX0) (T := TX0) (N := 9) hx hb hts hin0 hown hZ.1 hP 11 rfl rfl 8 (by decide) hf80 (fun _ h9 => h9) rfl dX2_isLocked_9 ?_
  refine lv_iload_n hx hb dX2_isLocked_12 rfl (lv_at hl 1 rfl) ?_
  refine rv_zald hx hb hZ.1 hP 18 0 rfl rfl (r := d) (by omega) (by decide) (v := bI ((zL σ) d)) rfl dX2_isLocked_13 ?_
  exact W.zret (v := bI ((zL σ) d)) hx hb hr (nr_bI _) (fun t ht hW => ⟨_, rfl, rfl, ht⟩) (fun q h => absurd h List.not_mem_nil) dX2_isLocked_14

set_option maxHeartbeats 4000000 in
set_option maxRecDepth 100000 in
theorem c_X2_isOpen (l : Launch) (D : va_G) (cZ cI : ClassId) (a : Nat) (o : Nat → Nat) (o' : Nat → Nat) (q : Nat → Nat) (κ : CS) (ω : OS) (ω' : OS) (σ : HS)  (d : Nat) (hσ : zOk σ) (hd8 : d < zM σ) (hnw : kn κ < 2 ^ 30) : Met l yX2_isOpen wsX2_isOpen ({ frames := 2, cells := 0, slots := 0, locals := 43 }) (RdP D cZ cI [.ref a, .int (nI d)] (pD cZ cI a o o' q κ ω ω' σ)) (vp_Si (fun r0 => r0 = bI (hOpen σ d ((kn κ + 0) % 12)))) 0 0 (fun _ => False) := by
  refine Met.ofW (cc := cX2_isOpen) (maxL := 2) (ret := (some .boolean)) (by decide) rfl ?_
  intro p e s m args below meth c s₁ B hml hv
  obtain ⟨rfl, hP, hZ⟩ := hv
  have hx := B.exec
  have hb := B.bytes
  have hr := B.returns
  have hts := atoms_spec (ws := wsX2_isOpen) B.pre
  have hown : s.vm.findClass RX2 = some m.cls := findClass_of_methodNamed B.named
  have hlocks := B.notSynchronized
  have hP : va_P D vwCl (pD cZ cI a o o' q κ ω ω' σ) s.heap := hP
  have hl := lv_entry ([.ref a, .int (nI d)]) (n := 2) (Nat.le_of_ble_eq_true rfl)
  rw [lg_entry_eq]
  generalize (lg_sl ([.ref a, .int (nI d)]) ++ List.replicate (2 - (lg_sl ([.ref a, .int (nI d)])).length) Slot.unset).toArray = ls at hl ⊢
  have hl : lv_has ls 2 [(0, .ref a), (1, .int (nI d))] := hl
  have hin2 : ∀ w ∈ u_ws RX2 TX2 9, w ∈ wsX2_isOpen := by decide +kernel
  have hf10 := hts (.fieldLink RX2 10 "DoorChase" "house" "LDoorChase$House;") (by decide +kernel)
  obtain ⟨hσ1, hσ2, hσ3, hσ4, hσ5, hσ6, hσ7⟩ := id hσ
  refine lv_aload_n hx hb dX2_isOpen_0 rfl (lv_at hl 0 rfl) ?_
  refine lv_iload_n hx hb dX2_isOpen_1 rfl (lv_at hl 1 rfl) ?_
  refine va_csv (va_runV (As := [.int (nI d)]) (rest := []) ⟨hx, hb, hml, hown, hts⟩ (c_X2_requireDoor l D cZ cI a o o' q κ ω ω' σ  d (by first | assumption | omega) (by first | assumption | omega)) (cwV 1 hts gX2_isOpen_X2_requireDoor rfl rfl rfl (by decide +kernel) ⟨Nat.le_of_ble_eq_true rfl, Nat.le_of_ble_eq_true rfl⟩) ⟨RdP_blind, va_recv hZ.1 hP (ci := 2) (q0 := 0) rfl rfl, RdP_start (hP.sub (ws' := pD cZ cI a o o' q κ ω ω' σ) [0, 1, 2, 3, 4, 5, 6, 7, 8, 9, 10, 11, 12, 13, 14, 15, 16, 17, 18] rfl) hZ⟩ rfl rfl hl.1 rfl (lv_room (Nat.le_of_ble_eq_true rfl)) dX2_isOpen_2 ⟨Nat.le_of_ble_eq_true rfl, Nat.le_of_ble_eq_true rfl⟩).run (fun _ => ?_)
  refine lv_aload_n hx hb dX2_isOpen_5 rfl (lv_at hl 0 rfl) ?_
  refine va_get (D := D) (ci := 2) (v := .ref (q 0)) (C := RX2) (T := TX2) (N := 9) hx hb hts hin2 hown hZ.1 hP 0 rfl rfl 0 (by decide) hf10 (fun _ h9 => h9) rfl dX2_isOpen_6 ?_
  refine lv_iload_n hx hb dX2_isOpen_9 rfl (lv_at hl 1 rfl) ?_
  refine lv_aload_n hx hb dX2_isOpen_10 rfl (lv_at hl 0 rfl) ?_
  refine lv_iconst (v := nI 0) hx hb dX2_isOpen_11 (by decide) ?_
  refine vp_callSi (va_runV (As := [.int (nI 0)]) (rest := [.int (nI d), .ref (q 0)]) ⟨hx, hb, hml, hown, hts⟩ (c_X2_phaseAfter l D cZ cI a o o' q κ ω ω' σ  0 (by first | assumption | omega) (by first | assumption | omega)) (cwV 1 hts gX2_isOpen_X2_phaseAfter rfl rfl rfl (by decide +kernel) ⟨Nat.le_of_ble_eq_true rfl, Nat.le_of_ble_eq_true rfl⟩) ⟨RdP_blind, va_recv hZ.1 hP (ci := 2) (q0 := 0) rfl rfl, RdP_start (hP.sub (ws' := pD cZ cI a o o' q κ ω ω' σ) [0, 1, 2, 3, 4, 5, 6, 7, 8, 9, 10, 11, 12, 13, 14, 15, 16, 17, 18] rfl) hZ⟩ rfl rfl hl.1 rfl (lv_room (Nat.le_of_ble_eq_true rfl)) dX2_isOpen_12 ⟨Nat.le_of_ble_eq_true rfl, Nat.le_of_ble_eq_true rfl⟩).run (fun r_3 hr_4 => ?_)
  subst hr_4
  refine rv_top (show _ = nI (((kn κ) + 0) % 12) from rfl) ?_
  refine vp_callSi (va_runV (As := [.int (nI d), .int (nI (((kn κ) + 0) % 12))]) (rest := []) ⟨hx, hb, hml, hown, hts⟩ (c_X0_isOpenIn l D cZ cI q σ  d (((kn κ) + 0) % 12) (by first | assumption | omega) (by first | assumption | omega) (by first | assumption | omega)) (cwV 2 hts gX2_isOpen_X0_isOpenIn rfl rfl rfl (by decide +kernel) ⟨Nat.le_of_ble_eq_true rfl, Nat.le_of_ble_eq_true rfl⟩) ⟨RdP_blind, va_recv hZ.1 hP (ci := 0) (q0 := 11) rfl rfl, RdP_start (hP.sub (ws' := pH cZ cI q σ) [11, 12, 13, 14, 15, 16, 17, 18] rfl) hZ⟩ rfl rfl hl.1 rfl (lv_room (Nat.le_of_ble_eq_true rfl)) dX2_isOpen_15 ⟨Nat.le_of_ble_eq_true rfl, Nat.le_of_ble_eq_true rfl⟩).run (fun r_5 hr_6 => ?_)
  subst hr_6
  refine rv_top (show _ = bI (hOpen σ d (((kn κ) + 0) % 12)) from rfl) ?_
  exact W.zret (v := bI (hOpen σ d (((kn κ) + 0) % 12))) hx hb hr (nr_bI _) (fun t ht hW => ⟨_, rfl, rfl, ht⟩) (fun q h => absurd h List.not_mem_nil) dX2_isOpen_18

set_option maxHeartbeats 4000000 in
set_option maxRecDepth 100000 in
theorem c_X2_turnsUntilOpen (l : Launch) (D : va_G) (cZ cI : ClassId) (a : Nat) (o : Nat → Nat) (o' : Nat → Nat) (q : Nat → Nat) (κ : CS) (ω : OS) (ω' : OS) (σ : HS)  (d : Nat) (hσ : zOk σ) (hd8 : d < zM σ) (hnw : kn κ < 2 ^ 30) : Met l yX2_turnsUntilOpen wsX2_turnsUntilOpen ({ frames := 2, cells := 0, slots := 0, locals := 43 }) (RdP D cZ cI [.ref a, .int (nI d)] (pD cZ cI a o o' q κ ω ω' σ)) (vp_Si (fun r0 => r0 = iO (hUntil σ (kn κ) d))) 0 0 (fun _ => False) := by
  refine Met.ofW (cc := cX2_turnsUntilOpen) (maxL := 3) (ret := (some .int)) (by decide) rfl ?_
  intro p e s m args below meth c s₁ B hml hv
  obtain ⟨rfl, hP, hZ⟩ := hv
  have hx := B.exec
  have hb := B.bytes
  have hr := B.returns
  have hts := atoms_spec (ws := wsX2_turnsUntilOpen) B.pre
  have hown : s.vm.findClass RX2 = some m.cls := findClass_of_methodNamed B.named
  have hlocks := B.notSynchronized
  have hP : va_P D vwCl (pD cZ cI a o o' q κ ω ω' σ) s.heap := hP
  have hl := lv_entry ([.ref a, .int (nI d)]) (n := 3) (Nat.le_of_ble_eq_true rfl)
  rw [lg_entry_eq]
  generalize (lg_sl ([.ref a, .int (nI d)]) ++ List.replicate (3 - (lg_sl ([.ref a, .int (nI d)])).length) Slot.unset).toArray = ls at hl ⊢
  have hl : lv_has ls 3 [(0, .ref a), (1, .int (nI d))] := hl
  have hin2 : ∀ w ∈ u_ws RX2 TX2 9, w ∈ wsX2_turnsUntilOpen := by decide +kernel
  have hf10 := hts (.fieldLink RX2 10 "DoorChase" "house" "LDoorChase$House;") (by decide +kernel)
  obtain ⟨hσ1, hσ2, hσ3, hσ4, hσ5, hσ6, hσ7⟩ := id hσ
  refine lv_aload_n hx hb dX2_turnsUntilOpen_0 rfl (lv_at hl 0 rfl) ?_
  refine lv_iload_n hx hb dX2_turnsUntilOpen_1 rfl (lv_at hl 1 rfl) ?_
  refine va_csv (va_runV (As := [.int (nI d)]) (rest := []) ⟨hx, hb, hml, hown, hts⟩ (c_X2_requireDoor l D cZ cI a o o' q κ ω ω' σ  d (by first | assumption | omega) (by first | assumption | omega)) (cwV 1 hts gX2_turnsUntilOpen_X2_requireDoor rfl rfl rfl (by decide +kernel) ⟨Nat.le_of_ble_eq_true rfl, Nat.le_of_ble_eq_true rfl⟩) ⟨RdP_blind, va_recv hZ.1 hP (ci := 2) (q0 := 0) rfl rfl, RdP_start (hP.sub (ws' := pD cZ cI a o o' q κ ω ω' σ) [0, 1, 2, 3, 4, 5, 6, 7, 8, 9, 10, 11, 12, 13, 14, 15, 16, 17, 18] rfl) hZ⟩ rfl rfl hl.1 rfl (lv_room (Nat.le_of_ble_eq_true rfl)) dX2_turnsUntilOpen_2 ⟨Nat.le_of_ble_eq_true rfl, Nat.le_of_ble_eq_true rfl⟩).run (fun _ => ?_)
  refine lv_iconst (v := nI 0) hx hb dX2_turnsUntilOpen_5 (by decide) ?_
  refine lv_istore_n (lv' := [(2, .int (nI 0)), (0, .ref a), (1, .int (nI d))]) hx hb dX2_turnsUntilOpen_6 rfl hl (by decide) rfl (fun ls hl => ?_)
  have loop7 : ∀ (n : Nat) (k : Nat), 12 + 1 ≤ k + n → (k ≤ 12) → (hUnL σ (kn κ) d (12 - k) k = hUntil σ (kn κ) d) → ∀ (ls : Array Slot), lv_has ls 3 [(0, .ref a), (1, .int (nI d)), (2, .int (nI k))] → W p l e (headSpec wsX2_turnsUntilOpen ({ frames := 2, cells := 0, slots := 0, locals := 43 })).room s m ([.ref a, .int (nI d)] : List Value).toArray below meth c s.heap [] 0 0 (MQ below (vp_Si (fun r0 => r0 = iO (hUntil σ (kn κ) d))) ([.ref a, .int (nI d)] : List Value).toArray s 0 0 (fun _ => False)) (F0 m 7 ls []) := by
    intro n
    induction n with
    | zero =>
      intro k hmeas hk hE ls hl
      exact absurd hmeas (by omega)
    | succ n ih7 =>
      intro k hmeas hk hE ls hl
      refine lv_iload_n hx hb dX2_turnsUntilOpen_7 rfl (lv_at hl 2 rfl) ?_
      refine lv_bipush (v := nI 12) hx hb dX2_turnsUntilOpen_8 (by decide) ?_
      refine rv_ge (tgt := 37) hx hb (by omega) (by omega) dX2_turnsUntilOpen_10 (by decide) (fun c10_3 => ?_) (fun c10_3 => ?_)
      · skip
        refine lv_iconst (v := (-1)) hx hb dX2_turnsUntilOpen_37 (by decide) ?_
        exact W.iret (v := (-1)) hx hb hr (fun t ht hW => ⟨_, rfl, (show (-1) = iO (hUntil σ (kn κ) d) from by rw [← hE, show 12 - k = 0 by omega]; rfl), ht⟩) (fun q h => absurd h List.not_mem_nil) dX2_turnsUntilOpen_38
      · skip
        refine lv_aload_n hx hb dX2_turnsUntilOpen_13 rfl (lv_at hl 0 rfl) ?_
        refine va_get (D := D) (ci := 2) (v := .ref (q 0)) (C := RX2) (T := TX2) (N := 9) hx hb hts hin2 hown hZ.1 hP 0 rfl rfl 0 (by decide) hf10 (fun _ h9 => h9) rfl dX2_turnsUntilOpen_14 ?_
        refine lv_iload_n hx hb dX2_turnsUntilOpen_17 rfl (lv_at hl 1 rfl) ?_
        refine lv_aload_n hx hb dX2_turnsUntilOpen_18 rfl (lv_at hl 0 rfl) ?_
        refine lv_iload_n hx hb dX2_turnsUntilOpen_19 rfl (lv_at hl 2 rfl) ?_
        refine vp_callSi (va_runV (As := [.int (nI k)]) (rest := [.int (nI d), .ref (q 0)]) ⟨hx, hb, hml, hown, hts⟩ (c_X2_phaseAfter l D cZ cI a o o' q κ ω ω' σ  k (by first | assumption | omega) (by first | assumption | omega)) (cwV 1 hts gX2_turnsUntilOpen_X2_phaseAfter rfl rfl rfl (by decide +kernel) ⟨Nat.le_of_ble_eq_true rfl, Nat.le_of_ble_eq_true rfl⟩) ⟨RdP_blind, va_recv hZ.1 hP (ci := 2) (q0 := 0) rfl rfl, RdP_start (hP.sub (ws' := pD cZ cI a o o' q κ ω ω' σ) [0, 1, 2, 3, 4, 5, 6, 7, 8, 9, 10, 11, 12, 13, 14, 15, 16, 17, 18] rfl) hZ⟩ rfl rfl hl.1 rfl (lv_room (Nat.le_of_ble_eq_true rfl)) dX2_turnsUntilOpen_20 ⟨Nat.le_of_ble_eq_true rfl, Nat.le_of_ble_eq_true rfl⟩).run (fun r_4 hr_5 => ?_)
        subst hr_5
        refine rv_top (show _ = nI (((kn κ) + k) % 12) from rfl) ?_
        refine vp_callSi (va_runV (As := [.int (nI d), .int (nI (((kn κ) + k) % 12))]) (rest := []) ⟨hx, hb, hml, hown, hts⟩ (c_X0_isOpenIn l D cZ cI q σ  d (((kn κ) + k) % 12) (by first | assumption | omega) (by first | assumption | omega) (by first | assumption | omega)) (cwV 2 hts gX2_turnsUntilOpen_X0_isOpenIn rfl rfl rfl (by decide +kernel) ⟨Nat.le_of_ble_eq_true rfl, Nat.le_of_ble_eq_true rfl⟩) ⟨RdP_blind, va_recv hZ.1 hP (ci := 0) (q0 := 11) rfl rfl, RdP_start (hP.sub (ws' := pH cZ cI q σ) [11, 12, 13, 14, 15, 16, 17, 18] rfl) hZ⟩ rfl rfl hl.1 rfl (lv_room (Nat.le_of_ble_eq_true rfl)) dX2_turnsUntilOpen_23 ⟨Nat.le_of_ble_eq_true rfl, Nat.le_of_ble_eq_true rfl⟩).run (fun r_6 hr_7 => ?_)
        subst hr_7
        refine rv_top (show _ = bI (hOpen σ d (((kn κ) + k) % 12)) from rfl) ?_
        refine rv_ifeqB (tgt := 31) hx hb dX2_turnsUntilOpen_26 (by decide) (fun c26_8 => ?_) (fun c26_8 => ?_)
        · skip
          refine lv_iinc (v := nI (k + 1)) (lv' := [(2, .int (nI (k + 1))), (0, .ref a), (1, .int (nI d))]) hx hb dX2_turnsUntilOpen_31 hl (k := 2) rfl (nI_add k 1) (by decide) rfl (fun ls hl => ?_)
          refine lv_goto (tgt := 7) hx hb dX2_turnsUntilOpen_34 (by decide) ?_
          exact ih7 (k + 1) (by omega) (by omega) (by rw [← hE, show 12 - k = (12 - (k + 1)) + 1 by omega, hUnL, if_neg (nt (by assumption))]) ls (lv_sub hl [1, 2, 0] rfl)
        · skip
          refine lv_iload_n hx hb dX2_turnsUntilOpen_29 rfl (lv_at hl 2 rfl) ?_
          exact W.iret (v := nI k) hx hb hr (fun t ht hW => ⟨_, rfl, (show nI k = iO (hUntil σ (kn κ) d) from by rw [← hE, show 12 - k = (12 - (k + 1)) + 1 by omega, hUnL, if_pos (by assumption)]; rfl), ht⟩) (fun q h => absurd h List.not_mem_nil) dX2_turnsUntilOpen_30
  exact loop7 (12 + 1) 0 (by omega) (by omega) rfl ls (lv_sub hl [1, 2, 0] rfl)

set_option maxHeartbeats 4000000 in
set_option maxRecDepth 100000 in
theorem c_X2_distance (l : Launch) (D : va_G) (cZ cI : ClassId) (a : Nat) (o : Nat → Nat) (o' : Nat → Nat) (q : Nat → Nat) (κ : CS) (ω : OS) (ω' : OS) (σ : HS)  (x : Nat) (y : Nat) (hσ : zOk σ) (ha : x < zN σ) (hb8 : y < zN σ) : Met l yX2_distance wsX2_distance ({ frames := 3, cells := 0, slots := 0, locals := 68 }) (RdP D cZ cI [.ref a, .int (nI x), .int (nI y)] (pD cZ cI a o o' q κ ω ω' σ)) (vp_Si (fun r0 => r0 = iO (hAway σ x y))) 0 0 (fun _ => False) := by
  refine Met.ofW (cc := cX2_distance) (maxL := 3) (ret := (some .int)) (by decide) rfl ?_
  intro p e s m args below meth c s₁ B hml hv
  obtain ⟨rfl, hP, hZ⟩ := hv
  have hx := B.exec
  have hb := B.bytes
  have hr := B.returns
  have hts := atoms_spec (ws := wsX2_distance) B.pre
  have hown : s.vm.findClass RX2 = some m.cls := findClass_of_methodNamed B.named
  have hlocks := B.notSynchronized
  have hP : va_P D vwCl (pD cZ cI a o o' q κ ω ω' σ) s.heap := hP
  have hl := lv_entry ([.ref a, .int (nI x), .int (nI y)]) (n := 3) (Nat.le_of_ble_eq_true rfl)
  rw [lg_entry_eq]
  generalize (lg_sl ([.ref a, .int (nI x), .int (nI y)]) ++ List.replicate (3 - (lg_sl ([.ref a, .int (nI x), .int (nI y)])).length) Slot.unset).toArray = ls at hl ⊢
  have hl : lv_has ls 3 [(0, .ref a), (1, .int (nI x)), (2, .int (nI y))] := hl
  have hin2 : ∀ w ∈ u_ws RX2 TX2 9, w ∈ wsX2_distance := by decide +kernel
  have hf10 := hts (.fieldLink RX2 10 "DoorChase" "house" "LDoorChase$House;") (by decide +kernel)
  obtain ⟨hσ1, hσ2, hσ3, hσ4, hσ5, hσ6, hσ7⟩ := id hσ
  refine lv_aload_n hx hb dX2_distance_0 rfl (lv_at hl 0 rfl) ?_
  refine lv_iload_n hx hb dX2_distance_1 rfl (lv_at hl 1 rfl) ?_
  refine va_csv (va_runV (As := [.int (nI x)]) (rest := []) ⟨hx, hb, hml, hown, hts⟩ (c_X2_requireRoom l D cZ cI a o o' q κ ω ω' σ  x (by first | assumption | omega) (by first | assumption | omega)) (cwV 1 hts gX2_distance_X2_requireRoom rfl rfl rfl (by decide +kernel) ⟨Nat.le_of_ble_eq_true rfl, Nat.le_of_ble_eq_true rfl⟩) ⟨RdP_blind, va_recv hZ.1 hP (ci := 2) (q0 := 0) rfl rfl, RdP_start (hP.sub (ws' := pD cZ cI a o o' q κ ω ω' σ) [0, 1, 2, 3, 4, 5, 6, 7, 8, 9, 10, 11, 12, 13, 14, 15, 16, 17, 18] rfl) hZ⟩ rfl rfl hl.1 rfl (lv_room (Nat.le_of_ble_eq_true rfl)) dX2_distance_2 ⟨Nat.le_of_ble_eq_true rfl, Nat.le_of_ble_eq_true rfl⟩).run (fun _ => ?_)
  refine lv_aload_n hx hb dX2_distance_5 rfl (lv_at hl 0 rfl) ?_
  refine lv_iload_n hx hb dX2_distance_6 rfl (lv_at hl 2 rfl) ?_
  refine va_csv (va_runV (As := [.int (nI y)]) (rest := []) ⟨hx, hb, hml, hown, hts⟩ (c_X2_requireRoom l D cZ cI a o o' q κ ω ω' σ  y (by first | assumption | omega) (by first | assumption | omega)) (cwV 1 hts gX2_distance_X2_requireRoom rfl rfl rfl (by decide +kernel) ⟨Nat.le_of_ble_eq_true rfl, Nat.le_of_ble_eq_true rfl⟩) ⟨RdP_blind, va_recv hZ.1 hP (ci := 2) (q0 := 0) rfl rfl, RdP_start (hP.sub (ws' := pD cZ cI a o o' q κ ω ω' σ) [0, 1, 2, 3, 4, 5, 6, 7, 8, 9, 10, 11, 12, 13, 14, 15, 16, 17, 18] rfl) hZ⟩ rfl rfl hl.1 rfl (lv_room (Nat.le_of_ble_eq_true rfl)) dX2_distance_7 ⟨Nat.le_of_ble_eq_true rfl, Nat.le_of_ble_eq_true rfl⟩).run (fun _ => ?_)
  refine lv_aload_n hx hb dX2_distance_10 rfl (lv_at hl 0 rfl) ?_
  refine va_get (D := D) (ci := 2) (v := .ref (q 0)) (C := RX2) (T := TX2) (N := 9) hx hb hts hin2 hown hZ.1 hP 0 rfl rfl 0 (by decide) hf10 (fun _ h9 => h9) rfl dX2_distance_11 ?_
  refine lv_iload_n hx hb dX2_distance_14 rfl (lv_at hl 1 rfl) ?_
  refine lv_iload_n hx hb dX2_distance_15 rfl (lv_at hl 2 rfl) ?_
  refine vp_callSi (va_runV (As := [.int (nI x), .int (nI y)]) (rest := []) ⟨hx, hb, hml, hown, hts⟩ (c_X0_doorsFrom l D cZ cI q σ  x y (by first | assumption | omega) (by first | assumption | omega) (by first | assumption | omega)) (cwV 2 hts gX2_distance_X0_doorsFrom rfl rfl rfl (by decide +kernel) ⟨Nat.le_of_ble_eq_true rfl, Nat.le_of_ble_eq_true rfl⟩) ⟨RdP_blind, va_recv hZ.1 hP (ci := 0) (q0 := 11) rfl rfl, RdP_start (hP.sub (ws' := pH cZ cI q σ) [11, 12, 13, 14, 15, 16, 17, 18] rfl) hZ⟩ rfl rfl hl.1 rfl (lv_room (Nat.le_of_ble_eq_true rfl)) dX2_distance_16 ⟨Nat.le_of_ble_eq_true rfl, Nat.le_of_ble_eq_true rfl⟩).run (fun r_5 hr_6 => ?_)
  subst hr_6
  refine rv_top (show _ = iO (hAway σ x y) from rfl) ?_
  exact W.iret (v := iO (hAway σ x y)) hx hb hr (fun t ht hW => ⟨_, rfl, rfl, ht⟩) (fun q h => absurd h List.not_mem_nil) dX2_distance_19

set_option maxHeartbeats 4000000 in
set_option maxRecDepth 100000 in
theorem c_X2_isWayOpen (l : Launch) (D : va_G) (cZ cI : ClassId) (a : Nat) (o : Nat → Nat) (o' : Nat → Nat) (q : Nat → Nat) (κ : CS) (ω : OS) (ω' : OS) (σ : HS)  (x : Nat) (y : Nat) (hσ : zOk σ) (ha : x < zN σ) (hb8 : y < zN σ) (hnw : kn κ < 2 ^ 30) : Met l yX2_isWayOpen wsX2_isWayOpen ({ frames := 2, cells := 0, slots := 0, locals := 43 }) (RdP D cZ cI [.ref a, .int (nI x), .int (nI y)] (pD cZ cI a o o' q κ ω ω' σ)) (vp_Si (fun r0 => r0 = bI (hWay σ x y ((kn κ + 0) % 12)))) 0 0 (fun _ => False) := by
  refine Met.ofW (cc := cX2_isWayOpen) (maxL := 4) (ret := (some .boolean)) (by decide) rfl ?_
  intro p e s m args below meth c s₁ B hml hv
  obtain ⟨rfl, hP, hZ⟩ := hv
  have hx := B.exec
  have hb := B.bytes
  have hr := B.returns
  have hts := atoms_spec (ws := wsX2_isWayOpen) B.pre
  have hown : s.vm.findClass RX2 = some m.cls := findClass_of_methodNamed B.named
  have hlocks := B.notSynchronized
  have hP : va_P D vwCl (pD cZ cI a o o' q κ ω ω' σ) s.heap := hP
  have hl := lv_entry ([.ref a, .int (nI x), .int (nI y)]) (n := 4) (Nat.le_of_ble_eq_true rfl)
  rw [lg_entry_eq]
  generalize (lg_sl ([.ref a, .int (nI x), .int (nI y)]) ++ List.replicate (4 - (lg_sl ([.ref a, .int (nI x), .int (nI y)])).length) Slot.unset).toArray = ls at hl ⊢
  have hl : lv_has ls 4 [(0, .ref a), (1, .int (nI x)), (2, .int (nI y))] := hl
  have hin2 : ∀ w ∈ u_ws RX2 TX2 9, w ∈ wsX2_isWayOpen := by decide +kernel
  have hf10 := hts (.fieldLink RX2 10 "DoorChase" "house" "LDoorChase$House;") (by decide +kernel)
  obtain ⟨hσ1, hσ2, hσ3, hσ4, hσ5, hσ6, hσ7⟩ := id hσ
  refine lv_aload_n hx hb dX2_isWayOpen_0 rfl (lv_at hl 0 rfl) ?_
  refine lv_iload_n hx hb dX2_isWayOpen_1 rfl (lv_at hl 1 rfl) ?_
  refine va_csv (va_runV (As := [.int (nI x)]) (rest := []) ⟨hx, hb, hml, hown, hts⟩ (c_X2_requireRoom l D cZ cI a o o' q κ ω ω' σ  x (by first | assumption | omega) (by first | assumption | omega)) (cwV 1 hts gX2_isWayOpen_X2_requireRoom rfl rfl rfl (by decide +kernel) ⟨Nat.le_of_ble_eq_true rfl, Nat.le_of_ble_eq_true rfl⟩) ⟨RdP_blind, va_recv hZ.1 hP (ci := 2) (q0 := 0) rfl rfl, RdP_start (hP.sub (ws' := pD cZ cI a o o' q κ ω ω' σ) [0, 1, 2, 3, 4, 5, 6, 7, 8, 9, 10, 11, 12, 13, 14, 15, 16, 17, 18] rfl) hZ⟩ rfl rfl hl.1 rfl (lv_room (Nat.le_of_ble_eq_true rfl)) dX2_isWayOpen_2 ⟨Nat.le_of_ble_eq_true rfl, Nat.le_of_ble_eq_true rfl⟩).run (fun _ => ?_)
  refine lv_aload_n hx hb dX2_isWayOpen_5 rfl (lv_at hl 0 rfl) ?_
  refine lv_iload_n hx hb dX2_isWayOpen_6 rfl (lv_at hl 2 rfl) ?_
  refine va_csv (va_runV (As := [.int (nI y)]) (rest := []) ⟨hx, hb, hml, hown, hts⟩ (c_X2_requireRoom l D cZ cI a o o' q κ ω ω' σ  y (by first | assumption | omega) (by first | assumption | omega)) (cwV 1 hts gX2_isWayOpen_X2_requireRoom rfl rfl rfl (by decide +kernel) ⟨Nat.le_of_ble_eq_true rfl, Nat.le_of_ble_eq_true rfl⟩) ⟨RdP_blind, va_recv hZ.1 hP (ci := 2) (q0 := 0) rfl rfl, RdP_start (hP.sub (ws' := pD cZ cI a o o' q κ ω ω' σ) [0, 1, 2, 3, 4, 5, 6, 7, 8, 9, 10, 11, 12, 13, 14, 15, 16, 17, 18] rfl) hZ⟩ rfl rfl hl.1 rfl (lv_room (Nat.le_of_ble_eq_true rfl)) dX2_isWayOpen_7 ⟨Nat.le_of_ble_eq_true rfl, Nat.le_of_ble_eq_true rfl⟩).run (fun _ => ?_)
  refine lv_aload_n hx hb dX2_isWayOpen_10 rfl (lv_at hl 0 rfl) ?_
  refine va_get (D := D) (ci := 2) (v := .ref (q 0)) (C := RX2) (T := TX2) (N := 9) hx hb hts hin2 hown hZ.1 hP 0 rfl rfl 0 (by decide) hf10 (fun _ h9 => h9) rfl dX2_isWayOpen_11 ?_
  refine lv_iload_n hx hb dX2_isWayOpen_14 rfl (lv_at hl 1 rfl) ?_
  refine lv_iload_n hx hb dX2_isWayOpen_15 rfl (lv_at hl 2 rfl) ?_
  refine vp_callSi (va_runV (As := [.int (nI x), .int (nI y)]) (rest := []) ⟨hx, hb, hml, hown, hts⟩ (c_X0_joining l D cZ cI q σ  x y (by first | assumption | omega) (by first | assumption | omega) (by first | assumption | omega)) (cwV 2 hts gX2_isWayOpen_X0_joining rfl rfl rfl (by decide +kernel) ⟨Nat.le_of_ble_eq_true rfl, Nat.le_of_ble_eq_true rfl⟩) ⟨RdP_blind, va_recv hZ.1 hP (ci := 0) (q0 := 11) rfl rfl, RdP_start (hP.sub (ws' := pH cZ cI q σ) [11, 12, 13, 14, 15, 16, 17, 18] rfl) hZ⟩ rfl rfl hl.1 rfl (lv_room (Nat.le_of_ble_eq_true rfl)) dX2_isWayOpen_16 ⟨Nat.le_of_ble_eq_true rfl, Nat.le_of_ble_eq_true rfl⟩).run (fun r_5 hr_6 => ?_)
  subst hr_6
  refine rv_top (show _ = iO (hJoin σ x y) from rfl) ?_
  refine lv_istore_n (lv' := [(3, .int (iO (hJoin σ x y))), (0, .ref a), (1, .int (nI x)), (2, .int (nI y))]) hx hb dX2_isWayOpen_19 rfl hl (by decide) rfl (fun ls hl => ?_)
  refine lv_iload_n hx hb dX2_isWayOpen_20 rfl (lv_at hl 0 rfl) ?_
  refine lv_iconst (v := (-1)) hx hb dX2_isWayOpen_21 (by decide) ?_
  refine rv_eqO (tgt := 45) hx hb (hJoin_b hσ _ _) dX2_isWayOpen_22 (by decide) (fun c22_7 => ?_) (fun c22_7 => ?_)
  · skip
    refine lv_iconst (v := nI 0) hx hb dX2_isWayOpen_45 (by decide) ?_
    exact W.zret (v := nI 0) hx hb hr rfl (fun t ht hW => ⟨_, rfl, (show nI 0 = bI (hWay σ x y ((kn κ + 0) % 12)) from by rw [show (hWay σ x y ((kn κ + 0) % 12)) = false from by first | (rw [hWay, show hJoin σ x y = none by assumption]; rfl) | (rw [hWay, show hOpen σ ((hJoin σ x y).getD 0) ((kn κ + 0) % 12) = false by assumption, Option.isSome_iff_ne_none.mpr (by assumption)]; rfl)]; rfl), ht⟩) (fun q h => absurd h List.not_mem_nil) dX2_isWayOpen_46
  · skip
    refine lv_aload_n hx hb dX2_isWayOpen_25 rfl (lv_at hl 1 rfl) ?_
    refine va_get (D := D) (ci := 2) (v := .ref (q 0)) (C := RX2) (T := TX2) (N := 9) hx hb hts hin2 hown hZ.1 hP 0 rfl rfl 0 (by decide) hf10 (fun _ h9 => h9) rfl dX2_isWayOpen_26 ?_
    refine lv_iload_n hx hb dX2_isWayOpen_29 rfl (lv_at hl 0 rfl) ?_
    refine rv_top (show iO (hJoin σ x y) = nI ((hJoin σ x y).getD 0) from iO_getD 0 (by assumption)) ?_
    refine lv_aload_n hx hb dX2_isWayOpen_30 rfl (lv_at hl 1 rfl) ?_
    refine lv_iconst (v := nI 0) hx hb dX2_isWayOpen_31 (by decide) ?_
    refine vp_callSi (va_runV (As := [.int (nI 0)]) (rest := [.int (nI ((hJoin σ x y).getD 0)), .ref (q 0)]) ⟨hx, hb, hml, hown, hts⟩ (c_X2_phaseAfter l D cZ cI a o o' q κ ω ω' σ  0 (by first | assumption | omega) (by first | assumption | omega)) (cwV 1 hts gX2_isWayOpen_X2_phaseAfter rfl rfl rfl (by decide +kernel) ⟨Nat.le_of_ble_eq_true rfl, Nat.le_of_ble_eq_true rfl⟩) ⟨RdP_blind, va_recv hZ.1 hP (ci := 2) (q0 := 0) rfl rfl, RdP_start (hP.sub (ws' := pD cZ cI a o o' q κ ω ω' σ) [0, 1, 2, 3, 4, 5, 6, 7, 8, 9, 10, 11, 12, 13, 14, 15, 16, 17, 18] rfl) hZ⟩ rfl rfl hl.1 rfl (lv_room (Nat.le_of_ble_eq_true rfl)) dX2_isWayOpen_32 ⟨Nat.le_of_ble_eq_true rfl, Nat.le_of_ble_eq_true rfl⟩).run (fun r_8 hr_9 => ?_)
    subst hr_9
    refine rv_top (show _ = nI (((kn κ) + 0) % 12) from rfl) ?_
    refine vp_callSi (va_runV (As := [.int (nI ((hJoin σ x y).getD 0)), .int (nI (((kn κ) + 0) % 12))]) (rest := []) ⟨hx, hb, hml, hown, hts⟩ (c_X0_isOpenIn l D cZ cI q σ  ((hJoin σ x y).getD 0) (((kn κ) + 0) % 12) (by first | assumption | omega) (hJoin_get hσ _ _ (by assumption)) (by first | assumption | omega)) (cwV 2 hts gX2_isWayOpen_X0_isOpenIn rfl rfl rfl (by decide +kernel) ⟨Nat.le_of_ble_eq_true rfl, Nat.le_of_ble_eq_true rfl⟩) ⟨RdP_blind, va_recv hZ.1 hP (ci := 0) (q0 := 11) rfl rfl, RdP_start (hP.sub (ws' := pH cZ cI q σ) [11, 12, 13, 14, 15, 16, 17, 18] rfl) hZ⟩ rfl rfl hl.1 rfl (lv_room (Nat.le_of_ble_eq_true rfl)) dX2_isWayOpen_35 ⟨Nat.le_of_ble_eq_true rfl, Nat.le_of_ble_eq_true rfl⟩).run (fun r_10 hr_11 => ?_)
    subst hr_11
    refine rv_top (show _ = bI (hOpen σ ((hJoin σ x y).getD 0) (((kn κ) + 0) % 12)) from rfl) ?_
    refine rv_ifeqB (tgt := 45) hx hb dX2_isWayOpen_38 (by decide) (fun c38_12 => ?_) (fun c38_12 => ?_)
    · skip
      refine lv_iconst (v := nI 0) hx hb dX2_isWayOpen_45 (by decide) ?_
      exact W.zret (v := nI 0) hx hb hr rfl (fun t ht hW => ⟨_, rfl, (show nI 0 = bI (hWay σ x y ((kn κ + 0) % 12)) from by rw [show (hWay σ x y ((kn κ + 0) % 12)) = false from by first | (rw [hWay, show hJoin σ x y = none by assumption]; rfl) | (rw [hWay, show hOpen σ ((hJoin σ x y).getD 0) ((kn κ + 0) % 12) = false by assumption, Option.isSome_iff_ne_none.mpr (by assumption)]; rfl)]; rfl), ht⟩) (fun q h => absurd h List.not_mem_nil) dX2_isWayOpen_46
    · skip
      refine lv_iconst (v := nI 1) hx hb dX2_isWayOpen_41 (by decide) ?_
      refine lv_goto (tgt := 46) hx hb dX2_isWayOpen_42 (by decide) ?_
      exact W.zret (v := nI 1) hx hb hr rfl (fun t ht hW => ⟨_, rfl, (show nI 1 = bI (hWay σ x y ((kn κ + 0) % 12)) from by rw [show (hWay σ x y ((kn κ + 0) % 12)) = true from by first | (rw [hWay, show hJoin σ x y = none by assumption]; rfl) | (rw [hWay, show hOpen σ ((hJoin σ x y).getD 0) ((kn κ + 0) % 12) = true by assumption, Option.isSome_iff_ne_none.mpr (by assumption)]; rfl)]; rfl), ht⟩) (fun q h => absurd h List.not_mem_nil) dX2_isWayOpen_46

set_option maxHeartbeats 4000000 in
set_option maxRecDepth 100000 in
theorem c_X2_turnsOf (l : Launch) (D : va_G) (cZ cI : ClassId) (a : Nat) (o : Nat → Nat) (o' : Nat → Nat) (q : Nat → Nat) (κ : CS) (ω : OS) (ω' : OS) (σ : HS)  (x : Nat) (y : Nat) (hσ : zOk σ) (ha : x < zN σ) (hb8 : y < zN σ) (hnw : kn κ < 2 ^ 30) : Met l yX2_turnsOf wsX2_turnsOf ({ frames := 2, cells := 0, slots := 0, locals := 44 }) (RdP D cZ cI [.ref a, .int (nI x), .int (nI y)] (pD cZ cI a o o' q κ ω ω' σ)) (vp_Si (fun r0 => r0 = iO (oT ω ((kn κ + 0) % 12) x y))) 0 0 (fun _ => False) := by
  refine Met.ofW (cc := cX2_turnsOf) (maxL := 3) (ret := (some .int)) (by decide) rfl ?_
  intro p e s m args below meth c s₁ B hml hv
  obtain ⟨rfl, hP, hZ⟩ := hv
  have hx := B.exec
  have hb := B.bytes
  have hr := B.returns
  have hts := atoms_spec (ws := wsX2_turnsOf) B.pre
  have hown : s.vm.findClass RX2 = some m.cls := findClass_of_methodNamed B.named
  have hlocks := B.notSynchronized
  have hP : va_P D vwCl (pD cZ cI a o o' q κ ω ω' σ) s.heap := hP
  have hl := lv_entry ([.ref a, .int (nI x), .int (nI y)]) (n := 3) (Nat.le_of_ble_eq_true rfl)
  rw [lg_entry_eq]
  generalize (lg_sl ([.ref a, .int (nI x), .int (nI y)]) ++ List.replicate (3 - (lg_sl ([.ref a, .int (nI x), .int (nI y)])).length) Slot.unset).toArray = ls at hl ⊢
  have hl : lv_has ls 3 [(0, .ref a), (1, .int (nI x)), (2, .int (nI y))] := hl
  have hin2 : ∀ w ∈ u_ws RX2 TX2 9, w ∈ wsX2_turnsOf := by decide +kernel
  have hf19 := hts (.fieldLink RX2 19 "DoorChase" "outlook" "LDoorChase$Outlook;") (by decide +kernel)
  obtain ⟨hσ1, hσ2, hσ3, hσ4, hσ5, hσ6, hσ7⟩ := id hσ
  refine lv_aload_n hx hb dX2_turnsOf_0 rfl (lv_at hl 0 rfl) ?_
  refine va_get (D := D) (ci := 2) (v := .ref (o 0)) (C := RX2) (T := TX2) (N := 9) hx hb hts hin2 hown hZ.1 hP 0 rfl rfl 1 (by decide) hf19 (fun _ h9 => h9) rfl dX2_turnsOf_1 ?_
  refine lv_aload_n hx hb dX2_turnsOf_4 rfl (lv_at hl 0 rfl) ?_
  refine lv_iconst (v := nI 0) hx hb dX2_turnsOf_5 (by decide) ?_
  refine vp_callSi (va_runV (As := [.int (nI 0)]) (rest := [.ref (o 0)]) ⟨hx, hb, hml, hown, hts⟩ (c_X2_phaseAfter l D cZ cI a o o' q κ ω ω' σ  0 (by first | assumption | omega) (by first | assumption | omega)) (cwV 1 hts gX2_turnsOf_X2_phaseAfter rfl rfl rfl (by decide +kernel) ⟨Nat.le_of_ble_eq_true rfl, Nat.le_of_ble_eq_true rfl⟩) ⟨RdP_blind, va_recv hZ.1 hP (ci := 2) (q0 := 0) rfl rfl, RdP_start (hP.sub (ws' := pD cZ cI a o o' q κ ω ω' σ) [0, 1, 2, 3, 4, 5, 6, 7, 8, 9, 10, 11, 12, 13, 14, 15, 16, 17, 18] rfl) hZ⟩ rfl rfl hl.1 rfl (lv_room (Nat.le_of_ble_eq_true rfl)) dX2_turnsOf_6 ⟨Nat.le_of_ble_eq_true rfl, Nat.le_of_ble_eq_true rfl⟩).run (fun r_1 hr_2 => ?_)
  subst hr_2
  refine rv_top (show _ = nI (((kn κ) + 0) % 12) from rfl) ?_
  refine lv_iload_n hx hb dX2_turnsOf_9 rfl (lv_at hl 1 rfl) ?_
  refine lv_iload_n hx hb dX2_turnsOf_10 rfl (lv_at hl 2 rfl) ?_
  refine vp_callSi (va_runV (As := [.int (nI (((kn κ) + 0) % 12)), .int (nI x), .int (nI y)]) (rest := []) ⟨hx, hb, hml, hown, hts⟩ (c_X1_turnsToCatchFrom l D cZ cI o q ω σ  (((kn κ) + 0) % 12) x y (by first | assumption | omega) (by first | assumption | omega) (by first | assumption | omega)) (cwV 3 hts gX2_turnsOf_X1_turnsToCatchFrom rfl rfl rfl (by decide +kernel) ⟨Nat.le_of_ble_eq_true rfl, Nat.le_of_ble_eq_true rfl⟩) ⟨RdP_blind, va_recv hZ.1 hP (ci := 1) (q0 := 1) rfl rfl, RdP_start (hP.sub (ws' := pO cZ cI o q ω σ) [1, 2, 3, 4, 5, 11, 12, 13, 14, 15, 16, 17, 18] rfl) hZ⟩ rfl rfl hl.1 rfl (lv_room (Nat.le_of_ble_eq_true rfl)) dX2_turnsOf_11 ⟨Nat.le_of_ble_eq_true rfl, Nat.le_of_ble_eq_true rfl⟩).run (fun r_3 hr_4 => ?_)
  subst hr_4
  refine rv_top (show _ = iO ((oT ω) (((kn κ) + 0) % 12) x y) from rfl) ?_
  exact W.iret (v := iO ((oT ω) (((kn κ) + 0) % 12) x y)) hx hb hr (fun t ht hW => ⟨_, rfl, rfl, ht⟩) (fun q h => absurd h List.not_mem_nil) dX2_turnsOf_14

set_option maxHeartbeats 4000000 in
set_option maxRecDepth 100000 in
theorem c_X2_turnsToCatch (l : Launch) (D : va_G) (cZ cI : ClassId) (a : Nat) (o : Nat → Nat) (o' : Nat → Nat) (q : Nat → Nat) (nw : Nat) (cg : Bool) (ct : Nat) (mo : Nat) (ea : Nat) (ω : OS) (ω' : OS) (σ : HS)   (hσ : zOk σ) (hct : ct < zN σ) (hmo : mo < zN σ) (hnw : nw < 2 ^ 30) : Met l yX2_turnsToCatch wsX2_turnsToCatch ({ frames := 3, cells := 0, slots := 0, locals := 66 }) (RdP D cZ cI [.ref a] (pD cZ cI a o o' q (nw, true, cg, some ct, some mo, ea) ω ω' σ)) (vp_Si (fun r0 => r0 = iO (oT ω ((nw + 0) % 12) ct mo))) 0 0 (fun _ => False) := by
  refine Met.ofW (cc := cX2_turnsToCatch) (maxL := 1) (ret := (some .int)) (by decide) rfl ?_
  intro p e s m args below meth c s₁ B hml hv
  obtain ⟨rfl, hP, hZ⟩ := hv
  have hx := B.exec
  have hb := B.bytes
  have hr := B.returns
  have hts := atoms_spec (ws := wsX2_turnsToCatch) B.pre
  have hown : s.vm.findClass RX2 = some m.cls := findClass_of_methodNamed B.named
  have hlocks := B.notSynchronized
  have hP : va_P D vwCl (pD cZ cI a o o' q (nw, true, cg, some ct, some mo, ea) ω ω' σ) s.heap := hP
  have hl := lv_entry ([.ref a]) (n := 1) (Nat.le_of_ble_eq_true rfl)
  rw [lg_entry_eq]
  generalize (lg_sl ([.ref a]) ++ List.replicate (1 - (lg_sl ([.ref a])).length) Slot.unset).toArray = ls at hl ⊢
  have hl : lv_has ls 1 [(0, .ref a)] := hl
  have hin2 : ∀ w ∈ u_ws RX2 TX2 9, w ∈ wsX2_turnsToCatch := by decide +kernel
  have hf26 := hts (.fieldLink RX2 26 "DoorChase" "cat" "I") (by decide +kernel)
  have hf30 := hts (.fieldLink RX2 30 "DoorChase" "mouse" "I") (by decide +kernel)
  have hf107 := hts (.fieldLink RX2 107 "DoorChase" "isGoingOn" "Z") (by decide +kernel)
  obtain ⟨hσ1, hσ2, hσ3, hσ4, hσ5, hσ6, hσ7⟩ := id hσ
  refine lv_aload_n hx hb dX2_turnsToCatch_0 rfl (lv_at hl 0 rfl) ?_
  refine va_get (D := D) (ci := 2) (v := .int (bI true)) (C := RX2) (T := TX2) (N := 9) hx hb hts hin2 hown hZ.1 hP 0 rfl rfl 4 (by decide) hf107 (fun _ h9 => h9) rfl dX2_turnsToCatch_1 ?_
  refine rv_ifeqB (tgt := 22) hx hb dX2_turnsToCatch_4 (by decide) (fun c4_1 => ?_) (fun c4_1 => ?_)
  · skip
    exact Bool.noConfusion c4_1
  · skip
    refine lv_aload_n hx hb dX2_turnsToCatch_7 rfl (lv_at hl 0 rfl) ?_
    refine lv_aload_n hx hb dX2_turnsToCatch_8 rfl (lv_at hl 0 rfl) ?_
    refine va_get (D := D) (ci := 2) (v := .int (nI ct)) (C := RX2) (T := TX2) (N := 9) hx hb hts hin2 hown hZ.1 hP 0 rfl rfl 6 (by decide) hf26 (fun _ h9 => h9) rfl dX2_turnsToCatch_9 ?_
    refine lv_aload_n hx hb dX2_turnsToCatch_12 rfl (lv_at hl 0 rfl) ?_
    refine va_get (D := D) (ci := 2) (v := .int (nI mo)) (C := RX2) (T := TX2) (N := 9) hx hb hts hin2 hown hZ.1 hP 0 rfl rfl 7 (by decide) hf30 (fun _ h9 => h9) rfl dX2_turnsToCatch_13 ?_
    refine vp_callSi (va_runV (As := [.int (nI ct), .int (nI mo)]) (rest := []) ⟨hx, hb, hml, hown, hts⟩ (c_X2_turnsOf l D cZ cI a o o' q (nw, true, cg, some ct, some mo, ea) ω ω' σ  ct mo (by first | assumption | omega) (by first | assumption | omega) (by first | assumption | omega) (by first | assumption | omega)) (cwV 2 hts gX2_turnsToCatch_X2_turnsOf rfl rfl rfl (by decide +kernel) ⟨Nat.le_of_ble_eq_true rfl, Nat.le_of_ble_eq_true rfl⟩) ⟨RdP_blind, va_recv hZ.1 hP (ci := 2) (q0 := 0) rfl rfl, RdP_start (hP.sub (ws' := pD cZ cI a o o' q (nw, true, cg, some ct, some mo, ea) ω ω' σ) [0, 1, 2, 3, 4, 5, 6, 7, 8, 9, 10, 11, 12, 13, 14, 15, 16, 17, 18] rfl) hZ⟩ rfl rfl hl.1 rfl (lv_room (Nat.le_of_ble_eq_true rfl)) dX2_turnsToCatch_16 ⟨Nat.le_of_ble_eq_true rfl, Nat.le_of_ble_eq_true rfl⟩).run (fun r_2 hr_3 => ?_)
    subst hr_3
    refine rv_top (show _ = iO ((oT ω) ((nw + 0) % 12) ct mo) from rfl) ?_
    refine lv_goto (tgt := 23) hx hb dX2_turnsToCatch_19 (by decide) ?_
    exact W.iret (v := iO ((oT ω) ((nw + 0) % 12) ct mo)) hx hb hr (fun t ht hW => ⟨_, rfl, rfl, ht⟩) (fun q h => absurd h List.not_mem_nil) dX2_turnsToCatch_23

set_option maxHeartbeats 4000000 in
set_option maxRecDepth 100000 in
theorem c_X2_turnsFrom (l : Launch) (D : va_G) (cZ cI : ClassId) (a : Nat) (o : Nat → Nat) (o' : Nat → Nat) (q : Nat → Nat) (κ : CS) (ω : OS) (ω' : OS) (σ : HS)  (x : Nat) (y : Nat) (hσ : zOk σ) (ha : x < zN σ) (hb8 : y < zN σ) (hs8 : zS σ x = false) (hnw : kn κ < 2 ^ 30) : Met l yX2_turnsFrom wsX2_turnsFrom ({ frames := 3, cells := 0, slots := 0, locals := 66 }) (RdP D cZ cI [.ref a, .int (nI x), .int (nI y)] (pD cZ cI a o o' q κ ω ω' σ)) (vp_Si (fun r0 => r0 = iO (oT ω ((kn κ + 0) % 12) x y))) 0 0 (fun _ => False) := by
  refine Met.ofW (cc := cX2_turnsFrom) (maxL := 3) (ret := (some .int)) (by decide) rfl ?_
  intro p e s m args below meth c s₁ B hml hv
  obtain ⟨rfl, hP, hZ⟩ := hv
  have hx := B.exec
  have hb := B.bytes
  have hr := B.returns
  have hts := atoms_spec (ws := wsX2_turnsFrom) B.pre
  have hown : s.vm.findClass RX2 = some m.cls := findClass_of_methodNamed B.named
  have hlocks := B.notSynchronized
  have hP : va_P D vwCl (pD cZ cI a o o' q κ ω ω' σ) s.heap := hP
  have hl := lv_entry ([.ref a, .int (nI x), .int (nI y)]) (n := 3) (Nat.le_of_ble_eq_true rfl)
  rw [lg_entry_eq]
  generalize (lg_sl ([.ref a, .int (nI x), .int (nI y)]) ++ List.replicate (3 - (lg_sl ([.ref a, .int (nI x), .int (nI y)])).length) Slot.unset).toArray = ls at hl ⊢
  have hl : lv_has ls 3 [(0, .ref a), (1, .int (nI x)), (2, .int (nI y))] := hl
  obtain ⟨hσ1, hσ2, hσ3, hσ4, hσ5, hσ6, hσ7⟩ := id hσ
  refine lv_aload_n hx hb dX2_turnsFrom_0 rfl (lv_at hl 0 rfl) ?_
  refine lv_iload_n hx hb dX2_turnsFrom_1 rfl (lv_at hl 1 rfl) ?_
  refine va_csv (va_runV (As := [.int (nI x)]) (rest := []) ⟨hx, hb, hml, hown, hts⟩ (c_X2_requireRoom l D cZ cI a o o' q κ ω ω' σ  x (by first | assumption | omega) (by first | assumption | omega)) (cwV 1 hts gX2_turnsFrom_X2_requireRoom rfl rfl rfl (by decide +kernel) ⟨Nat.le_of_ble_eq_true rfl, Nat.le_of_ble_eq_true rfl⟩) ⟨RdP_blind, va_recv hZ.1 hP (ci := 2) (q0 := 0) rfl rfl, RdP_start (hP.sub (ws' := pD cZ cI a o o' q κ ω ω' σ) [0, 1, 2, 3, 4, 5, 6, 7, 8, 9, 10, 11, 12, 13, 14, 15, 16, 17, 18] rfl) hZ⟩ rfl rfl hl.1 rfl (lv_room (Nat.le_of_ble_eq_true rfl)) dX2_turnsFrom_2 ⟨Nat.le_of_ble_eq_true rfl, Nat.le_of_ble_eq_true rfl⟩).run (fun _ => ?_)
  refine lv_aload_n hx hb dX2_turnsFrom_5 rfl (lv_at hl 0 rfl) ?_
  refine lv_iload_n hx hb dX2_turnsFrom_6 rfl (lv_at hl 2 rfl) ?_
  refine va_csv (va_runV (As := [.int (nI y)]) (rest := []) ⟨hx, hb, hml, hown, hts⟩ (c_X2_requireRoom l D cZ cI a o o' q κ ω ω' σ  y (by first | assumption | omega) (by first | assumption | omega)) (cwV 1 hts gX2_turnsFrom_X2_requireRoom rfl rfl rfl (by decide +kernel) ⟨Nat.le_of_ble_eq_true rfl, Nat.le_of_ble_eq_true rfl⟩) ⟨RdP_blind, va_recv hZ.1 hP (ci := 2) (q0 := 0) rfl rfl, RdP_start (hP.sub (ws' := pD cZ cI a o o' q κ ω ω' σ) [0, 1, 2, 3, 4, 5, 6, 7, 8, 9, 10, 11, 12, 13, 14, 15, 16, 17, 18] rfl) hZ⟩ rfl rfl hl.1 rfl (lv_room (Nat.le_of_ble_eq_true rfl)) dX2_turnsFrom_7 ⟨Nat.le_of_ble_eq_true rfl, Nat.le_of_ble_eq_true rfl⟩).run (fun _ => ?_)
  refine lv_aload_n hx hb dX2_turnsFrom_10 rfl (lv_at hl 0 rfl) ?_
  refine lv_iload_n hx hb dX2_turnsFrom_11 rfl (lv_at hl 1 rfl) ?_
  refine va_csv (va_runV (As := [.int (nI x)]) (rest := []) ⟨hx, hb, hml, hown, hts⟩ (c_X2_requireCatsRoom l D cZ cI a o o' q κ ω ω' σ  x (by first | assumption | omega) (by first | assumption | omega) (by first | assumption | omega)) (cwV 1 hts gX2_turnsFrom_X2_requireCatsRoom rfl rfl rfl (by decide +kernel) ⟨Nat.le_of_ble_eq_true rfl, Nat.le_of_ble_eq_true rfl⟩) ⟨RdP_blind, va_recv hZ.1 hP (ci := 2) (q0 := 0) rfl rfl, RdP_start (hP.sub (ws' := pD cZ cI a o o' q κ ω ω' σ) [0, 1, 2, 3, 4, 5, 6, 7, 8, 9, 10, 11, 12, 13, 14, 15, 16, 17, 18] rfl) hZ⟩ rfl rfl hl.1 rfl (lv_room (Nat.le_of_ble_eq_true rfl)) dX2_turnsFrom_12 ⟨Nat.le_of_ble_eq_true rfl, Nat.le_of_ble_eq_true rfl⟩).run (fun _ => ?_)
  refine lv_aload_n hx hb dX2_turnsFrom_15 rfl (lv_at hl 0 rfl) ?_
  refine lv_iload_n hx hb dX2_turnsFrom_16 rfl (lv_at hl 1 rfl) ?_
  refine lv_iload_n hx hb dX2_turnsFrom_17 rfl (lv_at hl 2 rfl) ?_
  refine vp_callSi (va_runV (As := [.int (nI x), .int (nI y)]) (rest := []) ⟨hx, hb, hml, hown, hts⟩ (c_X2_turnsOf l D cZ cI a o o' q κ ω ω' σ  x y (by first | assumption | omega) (by first | assumption | omega) (by first | assumption | omega) (by first | assumption | omega)) (cwV 2 hts gX2_turnsFrom_X2_turnsOf rfl rfl rfl (by decide +kernel) ⟨Nat.le_of_ble_eq_true rfl, Nat.le_of_ble_eq_true rfl⟩) ⟨RdP_blind, va_recv hZ.1 hP (ci := 2) (q0 := 0) rfl rfl, RdP_start (hP.sub (ws' := pD cZ cI a o o' q κ ω ω' σ) [0, 1, 2, 3, 4, 5, 6, 7, 8, 9, 10, 11, 12, 13, 14, 15, 16, 17, 18] rfl) hZ⟩ rfl rfl hl.1 rfl (lv_room (Nat.le_of_ble_eq_true rfl)) dX2_turnsFrom_18 ⟨Nat.le_of_ble_eq_true rfl, Nat.le_of_ble_eq_true rfl⟩).run (fun r_7 hr_8 => ?_)
  subst hr_8
  refine rv_top (show _ = iO ((oT ω) (((kn κ) + 0) % 12) x y) from rfl) ?_
  exact W.iret (v := iO ((oT ω) (((kn κ) + 0) % 12) x y)) hx hb hr (fun t ht hW => ⟨_, rfl, rfl, ht⟩) (fun q h => absurd h List.not_mem_nil) dX2_turnsFrom_21

set_option maxHeartbeats 4000000 in
set_option maxRecDepth 100000 in
theorem c_X2_safeNow (l : Launch) (D : va_G) (cZ cI : ClassId) (a : Nat) (o : Nat → Nat) (o' : Nat → Nat) (q : Nat → Nat) (nw : Nat) (cg : Bool) (ct : Nat) (mo : Nat) (ea : Nat) (ω : OS) (ω' : OS) (σ : HS)   (hσ : zOk σ) (hct : ct < zN σ) (hmo : mo < zN σ) (hnw : nw < 2 ^ 30) (hT : tOk ω) : Met l yX2_safeNow wsX2_safeNow ({ frames := 3, cells := 0, slots := 0, locals := 66 }) (RdP D cZ cI [.ref a] (pD cZ cI a o o' q (nw, true, cg, some ct, some mo, ea) ω ω' σ)) (vp_Si (fun r0 => r0 = nI (snL ω nw ct (zN σ) 0 0))) 0 0 (fun _ => False) := by
  refine Met.ofW (cc := cX2_safeNow) (maxL := 3) (ret := (some .int)) (by decide) rfl ?_
  intro p e s m args below meth c s₁ B hml hv
  obtain ⟨rfl, hP, hZ⟩ := hv
  have hx := B.exec
  have hb := B.bytes
  have hr := B.returns
  have hts := atoms_spec (ws := wsX2_safeNow) B.pre
  have hown : s.vm.findClass RX2 = some m.cls := findClass_of_methodNamed B.named
  have hlocks := B.notSynchronized
  have hP : va_P D vwCl (pD cZ cI a o o' q (nw, true, cg, some ct, some mo, ea) ω ω' σ) s.heap := hP
  have hl := lv_entry ([.ref a]) (n := 3) (Nat.le_of_ble_eq_true rfl)
  rw [lg_entry_eq]
  generalize (lg_sl ([.ref a]) ++ List.replicate (3 - (lg_sl ([.ref a])).length) Slot.unset).toArray = ls at hl ⊢
  have hl : lv_has ls 3 [(0, .ref a)] := hl
  have hin2 : ∀ w ∈ u_ws RX2 TX2 9, w ∈ wsX2_safeNow := by decide +kernel
  have hin0 : ∀ w ∈ u_ws RX0 TX0 9, w ∈ wsX2_safeNow := by decide +kernel
  have hf10 := hts (.fieldLink RX2 10 "DoorChase" "house" "LDoorChase$House;") (by decide +kernel)
  have hf26 := hts (.fieldLink RX2 26 "DoorChase" "cat" "I") (by decide +kernel)
  have hf33 := hts (.fieldLink RX2 33 "DoorChase$House" "roomCount" "I") (by decide +kernel)
  have hf107 := hts (.fieldLink RX2 107 "DoorChase" "isGoingOn" "Z") (by decide +kernel)
  obtain ⟨hσ1, hσ2, hσ3, hσ4, hσ5, hσ6, hσ7⟩ := id hσ
  refine lv_iconst (v := nI 0) hx hb dX2_safeNow_0 (by decide) ?_
  refine lv_istore_n (lv' := [(1, .int (nI 0)), (0, .ref a)]) hx hb dX2_safeNow_1 rfl hl (by decide) rfl (fun ls hl => ?_)
  refine lv_iconst (v := nI 0) hx hb dX2_safeNow_2 (by decide) ?_
  refine lv_istore_n (lv' := [(2, .int (nI 0)), (1, .int (nI 0)), (0, .ref a)]) hx hb dX2_safeNow_3 rfl hl (by decide) rfl (fun ls hl => ?_)
  have loop4 : ∀ (n : Nat) (r : Nat) (k : Nat), zN σ + 1 ≤ r + n → (r ≤ zN σ) → (snL ω nw ct (zN σ - r) r k = snL ω nw ct (zN σ) 0 0) → ∀ (ls : Array Slot), lv_has ls 3 [(0, .ref a), (1, .int (nI k)), (2, .int (nI r))] → W p l e (headSpec wsX2_safeNow ({ frames := 3, cells := 0, slots := 0, locals := 66 })).room s m ([.ref a] : List Value).toArray below meth c s.heap [] 0 0 (MQ below (vp_Si (fun r0 => r0 = nI (snL ω nw ct (zN σ) 0 0))) ([.ref a] : List Value).toArray s 0 0 (fun _ => False)) (F0 m 4 ls []) := by
    intro n
    induction n with
    | zero =>
      intro r k hmeas hr8 hE ls hl
      exact absurd hmeas (by omega)
    | succ n ih4 =>
      intro r k hmeas hr8 hE ls hl
      refine lv_aload_n hx hb dX2_safeNow_4 rfl (lv_at hl 0 rfl) ?_
      refine va_get (D := D) (ci := 2) (v := .int (bI true)) (C := RX2) (T := TX2) (N := 9) hx hb hts hin2 hown hZ.1 hP 0 rfl rfl 4 (by decide) hf107 (fun _ h9 => h9) rfl dX2_safeNow_5 ?_
      refine rv_ifeqB (tgt := 44) hx hb dX2_safeNow_8 (by decide) (fun c8_1 => ?_) (fun c8_1 => ?_)
      · skip
        exact Bool.noConfusion c8_1
      · skip
        refine lv_iload_n hx hb dX2_safeNow_11 rfl (lv_at hl 2 rfl) ?_
        refine lv_aload_n hx hb dX2_safeNow_12 rfl (lv_at hl 0 rfl) ?_
        refine va_get (D := D) (ci := 2) (v := .ref (q 0)) (C := RX2) (T := TX2) (N := 9) hx hb hts hin2 hown hZ.1 hP 0 rfl rfl 0 (by decide) hf10 (fun _ h9 => h9) rfl dX2_safeNow_13 ?_
        refine va_get (D := D) (ci := 0) (v := .int (nI (zN σ))) (C := RX0) (T := TX0) (N := 9) hx hb hts hin0 hown hZ.1 hP 11 rfl rfl 0 (by decide) hf33 (fun _ h9 => h9) rfl dX2_safeNow_16 ?_
        refine rv_ge (tgt := 44) hx hb (by omega) (by omega) dX2_safeNow_19 (by decide) (fun c19_2 => ?_) (fun c19_2 => ?_)
        · skip
          refine lv_iload_n hx hb dX2_safeNow_44 rfl (lv_at hl 1 rfl) ?_
          exact W.iret (v := nI k) hx hb hr (fun t ht hW => ⟨_, rfl, (show nI k = nI (snL ω nw ct (zN σ) 0 0) from by rw [← hE, show zN σ - r = 0 by omega]; rfl), ht⟩) (fun q h => absurd h List.not_mem_nil) dX2_safeNow_45
        · skip
          refine lv_aload_n hx hb dX2_safeNow_22 rfl (lv_at hl 0 rfl) ?_
          refine lv_aload_n hx hb dX2_safeNow_23 rfl (lv_at hl 0 rfl) ?_
          refine va_get (D := D) (ci := 2) (v := .int (nI ct)) (C := RX2) (T := TX2) (N := 9) hx hb hts hin2 hown hZ.1 hP 0 rfl rfl 6 (by decide) hf26 (fun _ h9 => h9) rfl dX2_safeNow_24 ?_
          refine lv_iload_n hx hb dX2_safeNow_27 rfl (lv_at hl 2 rfl) ?_
          refine vp_callSi (va_runV (As := [.int (nI ct), .int (nI r)]) (rest := []) ⟨hx, hb, hml, hown, hts⟩ (c_X2_turnsOf l D cZ cI a o o' q (nw, true, cg, some ct, some mo, ea) ω ω' σ  ct r (by first | assumption | omega) (by first | assumption | omega) (by first | assumption | omega) (by first | assumption | omega)) (cwV 2 hts gX2_safeNow_X2_turnsOf rfl rfl rfl (by decide +kernel) ⟨Nat.le_of_ble_eq_true rfl, Nat.le_of_ble_eq_true rfl⟩) ⟨RdP_blind, va_recv hZ.1 hP (ci := 2) (q0 := 0) rfl rfl, RdP_start (hP.sub (ws' := pD cZ cI a o o' q (nw, true, cg, some ct, some mo, ea) ω ω' σ) [0, 1, 2, 3, 4, 5, 6, 7, 8, 9, 10, 11, 12, 13, 14, 15, 16, 17, 18] rfl) hZ⟩ rfl rfl hl.1 rfl (lv_room (Nat.le_of_ble_eq_true rfl)) dX2_safeNow_28 ⟨Nat.le_of_ble_eq_true rfl, Nat.le_of_ble_eq_true rfl⟩).run (fun r_3 hr_4 => ?_)
          subst hr_4
          refine rv_top (show _ = iO ((oT ω) ((nw + 0) % 12) ct r) from rfl) ?_
          refine lv_iconst (v := (-1)) hx hb dX2_safeNow_31 (by decide) ?_
          refine rv_neO (tgt := 38) hx hb (fun n9 h9 => Nat.lt_of_le_of_lt (hT _ _ _ n9 (by omega) (by omega) (by omega) h9) (by decide)) dX2_safeNow_32 (by decide) (fun c32_5 => ?_) (fun c32_5 => ?_)
          · skip
            refine lv_iinc (v := nI (r + 1)) (lv' := [(2, .int (nI (r + 1))), (0, .ref a), (1, .int (nI k))]) hx hb dX2_safeNow_38 hl (k := 2) rfl (nI_add r 1) (by decide) rfl (fun ls hl => ?_)
            refine lv_goto (tgt := 4) hx hb dX2_safeNow_41 (by decide) ?_
            exact ih4 (r + 1) k (by omega) (by omega) (by rw [← hE, show zN σ - r = (zN σ - (r + 1)) + 1 by omega, snL]; first | rw [if_pos (by assumption)] | rw [if_neg (by assumption)]) ls (lv_sub hl [1, 2, 0] rfl)
          · skip
            refine lv_iinc (v := nI (k + 1)) (lv' := [(1, .int (nI (k + 1))), (0, .ref a), (2, .int (nI r))]) hx hb dX2_safeNow_35 hl (k := 1) rfl (nI_add k 1) (by decide) rfl (fun ls hl => ?_)
            refine lv_iinc (v := nI (r + 1)) (lv' := [(2, .int (nI (r + 1))), (1, .int (nI (k + 1))), (0, .ref a)]) hx hb dX2_safeNow_38 hl (k := 2) rfl (nI_add r 1) (by decide) rfl (fun ls hl => ?_)
            refine lv_goto (tgt := 4) hx hb dX2_safeNow_41 (by decide) ?_
            exact ih4 (r + 1) (k + 1) (by omega) (by omega) (by rw [← hE, show zN σ - r = (zN σ - (r + 1)) + 1 by omega, snL]; first | rw [if_pos (by assumption)] | rw [if_neg (by assumption)]) ls (lv_sub hl [2, 1, 0] rfl)
  exact loop4 (zN σ + 1) 0 0 (by omega) (by omega) rfl ls (lv_sub hl [2, 1, 0] rfl)

set_option maxHeartbeats 4000000 in
set_option maxRecDepth 100000 in
theorem c_X2_bestForMouse (l : Launch) (D : va_G) (cZ cI : ClassId) (a : Nat) (o : Nat → Nat) (o' : Nat → Nat) (q : Nat → Nat) (nw : Nat) (cg : Bool) (ct : Nat) (mo : Nat) (ea : Nat) (ω : OS) (ω' : OS) (σ : HS)   (hσ : zOk σ) (hct : ct < zN σ) (hmo : mo < zN σ) (hnw : nw < 2 ^ 30) (hT : tOk ω) : Met l yX2_bestForMouse wsX2_bestForMouse ({ frames := 2, cells := 0, slots := 0, locals := 44 }) (RdP D cZ cI [.ref a] (pD cZ cI a o o' q (nw, true, cg, some ct, some mo, ea) ω ω' σ)) (vp_Si (fun r0 => r0 = nI (bmF (oW ω) (oT ω) σ nw ct mo))) 0 0 (fun _ => False) := by
  refine Met.ofW (cc := cX2_bestForMouse) (maxL := 5) (ret := (some .int)) (by decide) rfl ?_
  intro p e s m args below meth c s₁ B hml hv
  obtain ⟨rfl, hP, hZ⟩ := hv
  have hx := B.exec
  have hb := B.bytes
  have hr := B.returns
  have hts := atoms_spec (ws := wsX2_bestForMouse) B.pre
  have hown : s.vm.findClass RX2 = some m.cls := findClass_of_methodNamed B.named
  have hlocks := B.notSynchronized
  have hP : va_P D vwCl (pD cZ cI a o o' q (nw, true, cg, some ct, some mo, ea) ω ω' σ) s.heap := hP
  have hl := lv_entry ([.ref a]) (n := 5) (Nat.le_of_ble_eq_true rfl)
  rw [lg_entry_eq]
  generalize (lg_sl ([.ref a]) ++ List.replicate (5 - (lg_sl ([.ref a])).length) Slot.unset).toArray = ls at hl ⊢
  have hl : lv_has ls 5 [(0, .ref a)] := hl
  have hin2 : ∀ w ∈ u_ws RX2 TX2 9, w ∈ wsX2_bestForMouse := by decide +kernel
  have hin0 : ∀ w ∈ u_ws RX0 TX0 9, w ∈ wsX2_bestForMouse := by decide +kernel
  have hf10 := hts (.fieldLink RX2 10 "DoorChase" "house" "LDoorChase$House;") (by decide +kernel)
  have hf19 := hts (.fieldLink RX2 19 "DoorChase" "outlook" "LDoorChase$Outlook;") (by decide +kernel)
  have hf26 := hts (.fieldLink RX2 26 "DoorChase" "cat" "I") (by decide +kernel)
  have hf30 := hts (.fieldLink RX2 30 "DoorChase" "mouse" "I") (by decide +kernel)
  have hf33 := hts (.fieldLink RX2 33 "DoorChase$House" "roomCount" "I") (by decide +kernel)
  obtain ⟨hσ1, hσ2, hσ3, hσ4, hσ5, hσ6, hσ7⟩ := id hσ
  refine lv_aload_n hx hb dX2_bestForMouse_0 rfl (lv_at hl 0 rfl) ?_
  refine va_get (D := D) (ci := 2) (v := .int (nI mo)) (C := RX2) (T := TX2) (N := 9) hx hb hts hin2 hown hZ.1 hP 0 rfl rfl 7 (by decide) hf30 (fun _ h9 => h9) rfl dX2_bestForMouse_1 ?_
  refine lv_istore_n (lv' := [(1, .int (nI mo)), (0, .ref a)]) hx hb dX2_bestForMouse_4 rfl hl (by decide) rfl (fun ls hl => ?_)
  refine lv_iconst (v := (-1)) hx hb dX2_bestForMouse_5 (by decide) ?_
  refine rv_top (show (-1) = iO none from rfl) ?_
  refine lv_istore_n (lv' := [(2, .int (iO none)), (1, .int (nI mo)), (0, .ref a)]) hx hb dX2_bestForMouse_6 rfl hl (by decide) rfl (fun ls hl => ?_)
  refine lv_iconst (v := nI 0) hx hb dX2_bestForMouse_7 (by decide) ?_
  refine lv_istore_n (lv' := [(3, .int (nI 0)), (2, .int (iO none)), (1, .int (nI mo)), (0, .ref a)]) hx hb dX2_bestForMouse_8 rfl hl (by decide) rfl (fun ls hl => ?_)
  have loop9 : ∀ (n : Nat) (r : Nat) (b9 : Nat) (o9 : Option Nat), zN σ + 1 ≤ r + n → (r ≤ zN σ) → (∀ n, o9 = some n → n ≤ 768) → (bmL (oW ω) (oT ω) ((nw + 0) % 12) ((nw + 1) % 12) mo ct (zN σ - r) r b9 o9 = bmF (oW ω) (oT ω) σ nw ct mo) → ∀ (ls : Array Slot), lv_has ls 5 [(0, .ref a), (1, .int (nI b9)), (2, .int (iO o9)), (3, .int (nI r))] → W p l e (headSpec wsX2_bestForMouse ({ frames := 2, cells := 0, slots := 0, locals := 44 })).room s m ([.ref a] : List Value).toArray below meth c s.heap [] 0 0 (MQ below (vp_Si (fun r0 => r0 = nI (bmF (oW ω) (oT ω) σ nw ct mo))) ([.ref a] : List Value).toArray s 0 0 (fun _ => False)) (F0 m 9 ls []) := by
    intro n
    induction n with
    | zero =>
      intro r b9 o9 hmeas hr8 ho9 hE ls hl
      exact absurd hmeas (by omega)
    | succ n ih9 =>
      intro r b9 o9 hmeas hr8 ho9 hE ls hl
      refine lv_iload_n hx hb dX2_bestForMouse_9 rfl (lv_at hl 3 rfl) ?_
      refine lv_aload_n hx hb dX2_bestForMouse_10 rfl (lv_at hl 0 rfl) ?_
      refine va_get (D := D) (ci := 2) (v := .ref (q 0)) (C := RX2) (T := TX2) (N := 9) hx hb hts hin2 hown hZ.1 hP 0 rfl rfl 0 (by decide) hf10 (fun _ h9 => h9) rfl dX2_bestForMouse_11 ?_
      refine va_get (D := D) (ci := 0) (v := .int (nI (zN σ))) (C := RX0) (T := TX0) (N := 9) hx hb hts hin0 hown hZ.1 hP 11 rfl rfl 0 (by decide) hf33 (fun _ h9 => h9) rfl dX2_bestForMouse_14 ?_
      refine rv_ge (tgt := 84) hx hb (by omega) (by omega) dX2_bestForMouse_17 (by decide) (fun c17_1 => ?_) (fun c17_1 => ?_)
      · skip
        refine lv_iload_n hx hb dX2_bestForMouse_84 rfl (lv_at hl 1 rfl) ?_
        exact W.iret (v := nI b9) hx hb hr (fun t ht hW => ⟨_, rfl, (show nI b9 = nI (bmF (oW ω) (oT ω) σ nw ct mo) from by rw [← hE, show zN σ - r = 0 by omega]; rfl), ht⟩) (fun q h => absurd h List.not_mem_nil) dX2_bestForMouse_85
      · skip
        refine lv_aload_n hx hb dX2_bestForMouse_20 rfl (lv_at hl 0 rfl) ?_
        refine va_get (D := D) (ci := 2) (v := .ref (o 0)) (C := RX2) (T := TX2) (N := 9) hx hb hts hin2 hown hZ.1 hP 0 rfl rfl 1 (by decide) hf19 (fun _ h9 => h9) rfl dX2_bestForMouse_21 ?_
        refine lv_aload_n hx hb dX2_bestForMouse_24 rfl (lv_at hl 0 rfl) ?_
        refine lv_iconst (v := nI 0) hx hb dX2_bestForMouse_25 (by decide) ?_
        refine vp_callSi (va_runV (As := [.int (nI 0)]) (rest := [.ref (o 0)]) ⟨hx, hb, hml, hown, hts⟩ (c_X2_phaseAfter l D cZ cI a o o' q (nw, true, cg, some ct, some mo, ea) ω ω' σ  0 (by first | assumption | omega) (by first | assumption | omega)) (cwV 1 hts gX2_bestForMouse_X2_phaseAfter rfl rfl rfl (by decide +kernel) ⟨Nat.le_of_ble_eq_true rfl, Nat.le_of_ble_eq_true rfl⟩) ⟨RdP_blind, va_recv hZ.1 hP (ci := 2) (q0 := 0) rfl rfl, RdP_start (hP.sub (ws' := pD cZ cI a o o' q (nw, true, cg, some ct, some mo, ea) ω ω' σ) [0, 1, 2, 3, 4, 5, 6, 7, 8, 9, 10, 11, 12, 13, 14, 15, 16, 17, 18] rfl) hZ⟩ rfl rfl hl.1 rfl (lv_room (Nat.le_of_ble_eq_true rfl)) dX2_bestForMouse_26 ⟨Nat.le_of_ble_eq_true rfl, Nat.le_of_ble_eq_true rfl⟩).run (fun r_2 hr_3 => ?_)
        subst hr_3
        refine rv_top (show _ = nI ((nw + 0) % 12) from rfl) ?_
        refine lv_aload_n hx hb dX2_bestForMouse_29 rfl (lv_at hl 0 rfl) ?_
        refine va_get (D := D) (ci := 2) (v := .int (nI mo)) (C := RX2) (T := TX2) (N := 9) hx hb hts hin2 hown hZ.1 hP 0 rfl rfl 7 (by decide) hf30 (fun _ h9 => h9) rfl dX2_bestForMouse_30 ?_
        refine lv_iload_n hx hb dX2_bestForMouse_33 rfl (lv_at hl 3 rfl) ?_
        refine vp_callSi (va_runV (As := [.int (nI ((nw + 0) % 12)), .int (nI mo), .int (nI r)]) (rest := []) ⟨hx, hb, hml, hown, hts⟩ (c_X1_canGo l D cZ cI o q ω σ  ((nw + 0) % 12) mo r (by first | assumption | omega) (by first | assumption | omega) (by first | assumption | omega)) (cwV 3 hts gX2_bestForMouse_X1_canGo rfl rfl rfl (by decide +kernel) ⟨Nat.le_of_ble_eq_true rfl, Nat.le_of_ble_eq_true rfl⟩) ⟨RdP_blind, va_recv hZ.1 hP (ci := 1) (q0 := 1) rfl rfl, RdP_start (hP.sub (ws' := pO cZ cI o q ω σ) [1, 2, 3, 4, 5, 11, 12, 13, 14, 15, 16, 17, 18] rfl) hZ⟩ rfl rfl hl.1 rfl (lv_room (Nat.le_of_ble_eq_true rfl)) dX2_bestForMouse_34 ⟨Nat.le_of_ble_eq_true rfl, Nat.le_of_ble_eq_true rfl⟩).run (fun r_4 hr_5 => ?_)
        subst hr_5
        refine rv_top (show _ = bI ((oW ω) ((nw + 0) % 12) mo r) from rfl) ?_
        refine rv_ifeqB (tgt := 78) hx hb dX2_bestForMouse_37 (by decide) (fun c37_6 => ?_) (fun c37_6 => ?_)
        · skip
          refine lv_iinc (v := nI (r + 1)) (lv' := [(3, .int (nI (r + 1))), (0, .ref a), (1, .int (nI b9)), (2, .int (iO o9))]) hx hb dX2_bestForMouse_78 hl (k := 3) rfl (nI_add r 1) (by decide) rfl (fun ls hl => ?_)
          refine lv_goto (tgt := 9) hx hb dX2_bestForMouse_81 (by decide) ?_
          exact ih9 (r + 1) b9 o9 (by omega) (by omega) (by first | exact ho9 | exact fun n9 h9 => hT _ _ _ n9 (by omega) (by omega) (by omega) h9) (by rw [← hE, show zN σ - r = (zN σ - (r + 1)) + 1 by omega, bmL]; first | rw [if_neg (nt (by assumption))] | rw [if_pos (by assumption), if_pos (by assumption)] | rw [if_pos (by assumption), if_neg (by assumption), if_pos (by assumption)] | rw [if_pos (by assumption), if_neg (by assumption), if_neg (by assumption), if_pos (by assumption)] | rw [if_pos (by assumption), if_neg (by assumption), if_neg (by assumption), if_neg (by assumption)] | rw [if_pos (by assumption), if_neg (by assumption), if_neg (by assumption)] | rw [if_pos (by assumption), if_neg (by assumption)]) ls (lv_sub hl [1, 2, 3, 0] rfl)
        · skip
          refine lv_aload_n hx hb dX2_bestForMouse_40 rfl (lv_at hl 0 rfl) ?_
          refine va_get (D := D) (ci := 2) (v := .ref (o 0)) (C := RX2) (T := TX2) (N := 9) hx hb hts hin2 hown hZ.1 hP 0 rfl rfl 1 (by decide) hf19 (fun _ h9 => h9) rfl dX2_bestForMouse_41 ?_
          refine lv_aload_n hx hb dX2_bestForMouse_44 rfl (lv_at hl 0 rfl) ?_
          refine lv_iconst (v := nI 1) hx hb dX2_bestForMouse_45 (by decide) ?_
          refine vp_callSi (va_runV (As := [.int (nI 1)]) (rest := [.ref (o 0)]) ⟨hx, hb, hml, hown, hts⟩ (c_X2_phaseAfter l D cZ cI a o o' q (nw, true, cg, some ct, some mo, ea) ω ω' σ  1 (by first | assumption | omega) (by first | assumption | omega)) (cwV 1 hts gX2_bestForMouse_X2_phaseAfter rfl rfl rfl (by decide +kernel) ⟨Nat.le_of_ble_eq_true rfl, Nat.le_of_ble_eq_true rfl⟩) ⟨RdP_blind, va_recv hZ.1 hP (ci := 2) (q0 := 0) rfl rfl, RdP_start (hP.sub (ws' := pD cZ cI a o o' q (nw, true, cg, some ct, some mo, ea) ω ω' σ) [0, 1, 2, 3, 4, 5, 6, 7, 8, 9, 10, 11, 12, 13, 14, 15, 16, 17, 18] rfl) hZ⟩ rfl rfl hl.1 rfl (lv_room (Nat.le_of_ble_eq_true rfl)) dX2_bestForMouse_46 ⟨Nat.le_of_ble_eq_true rfl, Nat.le_of_ble_eq_true rfl⟩).run (fun r_7 hr_8 => ?_)
          subst hr_8
          refine rv_top (show _ = nI ((nw + 1) % 12) from rfl) ?_
          refine lv_aload_n hx hb dX2_bestForMouse_49 rfl (lv_at hl 0 rfl) ?_
          refine va_get (D := D) (ci := 2) (v := .int (nI ct)) (C := RX2) (T := TX2) (N := 9) hx hb hts hin2 hown hZ.1 hP 0 rfl rfl 6 (by decide) hf26 (fun _ h9 => h9) rfl dX2_bestForMouse_50 ?_
          refine lv_iload_n hx hb dX2_bestForMouse_53 rfl (lv_at hl 3 rfl) ?_
          refine vp_callSi (va_runV (As := [.int (nI ((nw + 1) % 12)), .int (nI ct), .int (nI r)]) (rest := []) ⟨hx, hb, hml, hown, hts⟩ (c_X1_turnsToCatchFrom l D cZ cI o q ω σ  ((nw + 1) % 12) ct r (by first | assumption | omega) (by first | assumption | omega) (by first | assumption | omega)) (cwV 3 hts gX2_bestForMouse_X1_turnsToCatchFrom rfl rfl rfl (by decide +kernel) ⟨Nat.le_of_ble_eq_true rfl, Nat.le_of_ble_eq_true rfl⟩) ⟨RdP_blind, va_recv hZ.1 hP (ci := 1) (q0 := 1) rfl rfl, RdP_start (hP.sub (ws' := pO cZ cI o q ω σ) [1, 2, 3, 4, 5, 11, 12, 13, 14, 15, 16, 17, 18] rfl) hZ⟩ rfl rfl hl.1 rfl (lv_room (Nat.le_of_ble_eq_true rfl)) dX2_bestForMouse_54 ⟨Nat.le_of_ble_eq_true rfl, Nat.le_of_ble_eq_true rfl⟩).run (fun r_9 hr_10 => ?_)
          subst hr_10
          refine rv_top (show _ = iO ((oT ω) ((nw + 1) % 12) ct r) from rfl) ?_
          refine lv_istore (lv' := [(4, .int (iO ((oT ω) ((nw + 1) % 12) ct r))), (0, .ref a), (1, .int (nI b9)), (2, .int (iO o9)), (3, .int (nI r))]) hx hb dX2_bestForMouse_57 hl (by decide) rfl (fun ls hl => ?_)
          refine lv_iload hx hb dX2_bestForMouse_59 (lv_at hl 0 rfl) ?_
          refine lv_iconst (v := (-1)) hx hb dX2_bestForMouse_61 (by decide) ?_
          refine rv_neO (tgt := 67) hx hb (fun n9 h9 => Nat.lt_of_le_of_lt (hT _ _ _ n9 (by omega) (by omega) (by omega) h9) (by decide)) dX2_bestForMouse_62 (by decide) (fun c62_11 => ?_) (fun c62_11 => ?_)
          · skip
            refine lv_iload hx hb dX2_bestForMouse_67 (lv_at hl 0 rfl) ?_
            refine lv_iload_n hx hb dX2_bestForMouse_69 rfl (lv_at hl 3 rfl) ?_
            refine rv_leOO (tgt := 78) hx hb (fun n9 h9 => Nat.lt_of_le_of_lt (hT _ _ _ n9 (by omega) (by omega) (by omega) h9) (by decide)) (fun n9 h9 => Nat.lt_of_le_of_lt (ho9 n9 h9) (by decide)) dX2_bestForMouse_70 (by decide) (fun c70_12 => ?_) (fun c70_12 => ?_)
            · skip
              refine lv_iinc (v := nI (r + 1)) (lv' := [(3, .int (nI (r + 1))), (4, .int (iO ((oT ω) ((nw + 1) % 12) ct r))), (0, .ref a), (1, .int (nI b9)), (2, .int (iO o9))]) hx hb dX2_bestForMouse_78 hl (k := 4) rfl (nI_add r 1) (by decide) rfl (fun ls hl => ?_)
              refine lv_goto (tgt := 9) hx hb dX2_bestForMouse_81 (by decide) ?_
              exact ih9 (r + 1) b9 o9 (by omega) (by omega) (by first | exact ho9 | exact fun n9 h9 => hT _ _ _ n9 (by omega) (by omega) (by omega) h9) (by rw [← hE, show zN σ - r = (zN σ - (r + 1)) + 1 by omega, bmL]; first | rw [if_neg (nt (by assumption))] | rw [if_pos (by assumption), if_pos (by assumption)] | rw [if_pos (by assumption), if_neg (by assumption), if_pos (by assumption)] | rw [if_pos (by assumption), if_neg (by assumption), if_neg (by assumption), if_pos (by assumption)] | rw [if_pos (by assumption), if_neg (by assumption), if_neg (by assumption), if_neg (by assumption)] | rw [if_pos (by assumption), if_neg (by assumption), if_neg (by assumption)] | rw [if_pos (by assumption), if_neg (by assumption)]) ls (lv_sub hl [2, 3, 4, 0] rfl)
            · skip
              refine lv_iload hx hb dX2_bestForMouse_73 (lv_at hl 0 rfl) ?_
              refine lv_istore_n (lv' := [(2, .int (iO ((oT ω) ((nw + 1) % 12) ct r))), (4, .int (iO ((oT ω) ((nw + 1) % 12) ct r))), (0, .ref a), (1, .int (nI b9)), (3, .int (nI r))]) hx hb dX2_bestForMouse_75 rfl hl (by decide) rfl (fun ls hl => ?_)
              refine lv_iload_n hx hb dX2_bestForMouse_76 rfl (lv_at hl 4 rfl) ?_
              refine lv_istore_n (lv' := [(1, .int (nI r)), (2, .int (iO ((oT ω) ((nw + 1) % 12) ct r))), (4, .int (iO ((oT ω) ((nw + 1) % 12) ct r))), (0, .ref a), (3, .int (nI r))]) hx hb dX2_bestForMouse_77 rfl hl (by decide) rfl (fun ls hl => ?_)
              refine lv_iinc (v := nI (r + 1)) (lv' := [(3, .int (nI (r + 1))), (1, .int (nI r)), (2, .int (iO ((oT ω) ((nw + 1) % 12) ct r))), (4, .int (iO ((oT ω) ((nw + 1) % 12) ct r))), (0, .ref a)]) hx hb dX2_bestForMouse_78 hl (k := 4) rfl (nI_add r 1) (by decide) rfl (fun ls hl => ?_)
              refine lv_goto (tgt := 9) hx hb dX2_bestForMouse_81 (by decide) ?_
              exact ih9 (r + 1) r ((oT ω) ((nw + 1) % 12) ct r) (by omega) (by omega) (by first | exact ho9 | exact fun n9 h9 => hT _ _ _ n9 (by omega) (by omega) (by omega) h9) (by rw [← hE, show zN σ - r = (zN σ - (r + 1)) + 1 by omega, bmL]; first | rw [if_neg (nt (by assumption))] | rw [if_pos (by assumption), if_pos (by assumption)] | rw [if_pos (by assumption), if_neg (by assumption), if_pos (by assumption)] | rw [if_pos (by assumption), if_neg (by assumption), if_neg (by assumption), if_pos (by assumption)] | rw [if_pos (by assumption), if_neg (by assumption), if_neg (by assumption), if_neg (by assumption)] | rw [if_pos (by assumption), if_neg (by assumption), if_neg (by assumption)] | rw [if_pos (by assumption), if_neg (by assumption)]) ls (lv_sub hl [4, 1, 2, 0] rfl)
          · skip
            refine lv_iload_n hx hb dX2_bestForMouse_65 rfl (lv_at hl 4 rfl) ?_
            exact W.iret (v := nI r) hx hb hr (fun t ht hW => ⟨_, rfl, (show nI r = nI (bmF (oW ω) (oT ω) σ nw ct mo) from by rw [← hE, show zN σ - r = (zN σ - (r + 1)) + 1 by omega, bmL, if_pos (by assumption), if_pos (by assumption)]), ht⟩) (fun q h => absurd h List.not_mem_nil) dX2_bestForMouse_66
  exact loop9 (zN σ + 1) 0 mo none (by omega) (by omega) (fun n h => by cases h) rfl ls (lv_sub hl [3, 2, 1, 0] rfl)

set_option maxHeartbeats 4000000 in
set_option maxRecDepth 100000 in
theorem c_X2_soonestForCat (l : Launch) (D : va_G) (cZ cI : ClassId) (a : Nat) (o : Nat → Nat) (o' : Nat → Nat) (q : Nat → Nat) (nw : Nat) (cg : Bool) (ct : Nat) (mo : Nat) (ea : Nat) (ω : OS) (ω' : OS) (σ : HS)   (hσ : zOk σ) (hct : ct < zN σ) (hmo : mo < zN σ) (hnw : nw < 2 ^ 30) (hT : tOk ω) : Met l yX2_soonestForCat wsX2_soonestForCat ({ frames := 2, cells := 0, slots := 0, locals := 44 }) (RdP D cZ cI [.ref a] (pD cZ cI a o o' q (nw, true, cg, some ct, some mo, ea) ω ω' σ)) (vp_Si (fun r0 => r0 = iO (scF (oW ω) (oT ω) σ nw ct mo))) 0 0 (fun _ => False) := by
  refine Met.ofW (cc := cX2_soonestForCat) (maxL := 5) (ret := (some .int)) (by decide) rfl ?_
  intro p e s m args below meth c s₁ B hml hv
  obtain ⟨rfl, hP, hZ⟩ := hv
  have hx := B.exec
  have hb := B.bytes
  have hr := B.returns
  have hts := atoms_spec (ws := wsX2_soonestForCat) B.pre
  have hown : s.vm.findClass RX2 = some m.cls := findClass_of_methodNamed B.named
  have hlocks := B.notSynchronized
  have hP : va_P D vwCl (pD cZ cI a o o' q (nw, true, cg, some ct, some mo, ea) ω ω' σ) s.heap := hP
  have hl := lv_entry ([.ref a]) (n := 5) (Nat.le_of_ble_eq_true rfl)
  rw [lg_entry_eq]
  generalize (lg_sl ([.ref a]) ++ List.replicate (5 - (lg_sl ([.ref a])).length) Slot.unset).toArray = ls at hl ⊢
  have hl : lv_has ls 5 [(0, .ref a)] := hl
  have hin2 : ∀ w ∈ u_ws RX2 TX2 9, w ∈ wsX2_soonestForCat := by decide +kernel
  have hin0 : ∀ w ∈ u_ws RX0 TX0 9, w ∈ wsX2_soonestForCat := by decide +kernel
  have hf10 := hts (.fieldLink RX2 10 "DoorChase" "house" "LDoorChase$House;") (by decide +kernel)
  have hf19 := hts (.fieldLink RX2 19 "DoorChase" "outlook" "LDoorChase$Outlook;") (by decide +kernel)
  have hf26 := hts (.fieldLink RX2 26 "DoorChase" "cat" "I") (by decide +kernel)
  have hf30 := hts (.fieldLink RX2 30 "DoorChase" "mouse" "I") (by decide +kernel)
  have hf33 := hts (.fieldLink RX2 33 "DoorChase$House" "roomCount" "I") (by decide +kernel)
  obtain ⟨hσ1, hσ2, hσ3, hσ4, hσ5, hσ6, hσ7⟩ := id hσ
  refine lv_iconst (v := (-1)) hx hb dX2_soonestForCat_0 (by decide) ?_
  refine rv_top (show (-1) = iO none from rfl) ?_
  refine lv_istore_n (lv' := [(1, .int (iO none)), (0, .ref a)]) hx hb dX2_soonestForCat_1 rfl hl (by decide) rfl (fun ls hl => ?_)
  refine lv_iconst (v := (-1)) hx hb dX2_soonestForCat_2 (by decide) ?_
  refine rv_top (show (-1) = iO none from rfl) ?_
  refine lv_istore_n (lv' := [(2, .int (iO none)), (1, .int (iO none)), (0, .ref a)]) hx hb dX2_soonestForCat_3 rfl hl (by decide) rfl (fun ls hl => ?_)
  refine lv_iconst (v := nI 0) hx hb dX2_soonestForCat_4 (by decide) ?_
  refine lv_istore_n (lv' := [(3, .int (nI 0)), (2, .int (iO none)), (1, .int (iO none)), (0, .ref a)]) hx hb dX2_soonestForCat_5 rfl hl (by decide) rfl (fun ls hl => ?_)
  have loop6 : ∀ (n : Nat) (r : Nat) (b9 : Option Nat) (o9 : Option Nat), zN σ + 1 ≤ r + n → (r ≤ zN σ) → (∀ n, b9 = some n → n < zN σ) → (∀ n, o9 = some n → n ≤ 768) → (scL (oW ω) (oT ω) ((nw + 0) % 12) ((nw + 1) % 12) mo ct (zN σ - r) r b9 o9 = scF (oW ω) (oT ω) σ nw ct mo) → ∀ (ls : Array Slot), lv_has ls 5 [(0, .ref a), (1, .int (iO b9)), (2, .int (iO o9)), (3, .int (nI r))] → W p l e (headSpec wsX2_soonestForCat ({ frames := 2, cells := 0, slots := 0, locals := 44 })).room s m ([.ref a] : List Value).toArray below meth c s.heap [] 0 0 (MQ below (vp_Si (fun r0 => r0 = iO (scF (oW ω) (oT ω) σ nw ct mo))) ([.ref a] : List Value).toArray s 0 0 (fun _ => False)) (F0 m 6 ls []) := by
    intro n
    induction n with
    | zero =>
      intro r b9 o9 hmeas hr8 hb9 ho9 hE ls hl
      exact absurd hmeas (by omega)
    | succ n ih6 =>
      intro r b9 o9 hmeas hr8 hb9 ho9 hE ls hl
      refine lv_iload_n hx hb dX2_soonestForCat_6 rfl (lv_at hl 3 rfl) ?_
      refine lv_aload_n hx hb dX2_soonestForCat_7 rfl (lv_at hl 0 rfl) ?_
      refine va_get (D := D) (ci := 2) (v := .ref (q 0)) (C := RX2) (T := TX2) (N := 9) hx hb hts hin2 hown hZ.1 hP 0 rfl rfl 0 (by decide) hf10 (fun _ h9 => h9) rfl dX2_soonestForCat_8 ?_
      refine va_get (D := D) (ci := 0) (v := .int (nI (zN σ))) (C := RX0) (T := TX0) (N := 9) hx hb hts hin0 hown hZ.1 hP 11 rfl rfl 0 (by decide) hf33 (fun _ h9 => h9) rfl dX2_soonestForCat_11 ?_
      refine rv_ge (tgt := 84) hx hb (by omega) (by omega) dX2_soonestForCat_14 (by decide) (fun c14_1 => ?_) (fun c14_1 => ?_)
      · skip
        refine lv_iload_n hx hb dX2_soonestForCat_84 rfl (lv_at hl 1 rfl) ?_
        exact W.iret (v := iO b9) hx hb hr (fun t ht hW => ⟨_, rfl, (show iO b9 = iO (scF (oW ω) (oT ω) σ nw ct mo) from by rw [← hE, show zN σ - r = 0 by omega]; rfl), ht⟩) (fun q h => absurd h List.not_mem_nil) dX2_soonestForCat_85
      · skip
        refine lv_aload_n hx hb dX2_soonestForCat_17 rfl (lv_at hl 0 rfl) ?_
        refine va_get (D := D) (ci := 2) (v := .ref (o 0)) (C := RX2) (T := TX2) (N := 9) hx hb hts hin2 hown hZ.1 hP 0 rfl rfl 1 (by decide) hf19 (fun _ h9 => h9) rfl dX2_soonestForCat_18 ?_
        refine lv_aload_n hx hb dX2_soonestForCat_21 rfl (lv_at hl 0 rfl) ?_
        refine lv_iconst (v := nI 0) hx hb dX2_soonestForCat_22 (by decide) ?_
        refine vp_callSi (va_runV (As := [.int (nI 0)]) (rest := [.ref (o 0)]) ⟨hx, hb, hml, hown, hts⟩ (c_X2_phaseAfter l D cZ cI a o o' q (nw, true, cg, some ct, some mo, ea) ω ω' σ  0 (by first | assumption | omega) (by first | assumption | omega)) (cwV 1 hts gX2_soonestForCat_X2_phaseAfter rfl rfl rfl (by decide +kernel) ⟨Nat.le_of_ble_eq_true rfl, Nat.le_of_ble_eq_true rfl⟩) ⟨RdP_blind, va_recv hZ.1 hP (ci := 2) (q0 := 0) rfl rfl, RdP_start (hP.sub (ws' := pD cZ cI a o o' q (nw, true, cg, some ct, some mo, ea) ω ω' σ) [0, 1, 2, 3, 4, 5, 6, 7, 8, 9, 10, 11, 12, 13, 14, 15, 16, 17, 18] rfl) hZ⟩ rfl rfl hl.1 rfl (lv_room (Nat.le_of_ble_eq_true rfl)) dX2_soonestForCat_23 ⟨Nat.le_of_ble_eq_true rfl, Nat.le_of_ble_eq_true rfl⟩).run (fun r_2 hr_3 => ?_)
        subst hr_3
        refine rv_top (show _ = nI ((nw + 0) % 12) from rfl) ?_
        refine lv_aload_n hx hb dX2_soonestForCat_26 rfl (lv_at hl 0 rfl) ?_
        refine va_get (D := D) (ci := 2) (v := .int (nI ct)) (C := RX2) (T := TX2) (N := 9) hx hb hts hin2 hown hZ.1 hP 0 rfl rfl 6 (by decide) hf26 (fun _ h9 => h9) rfl dX2_soonestForCat_27 ?_
        refine lv_iload_n hx hb dX2_soonestForCat_30 rfl (lv_at hl 3 rfl) ?_
        refine vp_callSi (va_runV (As := [.int (nI ((nw + 0) % 12)), .int (nI ct), .int (nI r)]) (rest := []) ⟨hx, hb, hml, hown, hts⟩ (c_X1_canGo l D cZ cI o q ω σ  ((nw + 0) % 12) ct r (by first | assumption | omega) (by first | assumption | omega) (by first | assumption | omega)) (cwV 3 hts gX2_soonestForCat_X1_canGo rfl rfl rfl (by decide +kernel) ⟨Nat.le_of_ble_eq_true rfl, Nat.le_of_ble_eq_true rfl⟩) ⟨RdP_blind, va_recv hZ.1 hP (ci := 1) (q0 := 1) rfl rfl, RdP_start (hP.sub (ws' := pO cZ cI o q ω σ) [1, 2, 3, 4, 5, 11, 12, 13, 14, 15, 16, 17, 18] rfl) hZ⟩ rfl rfl hl.1 rfl (lv_room (Nat.le_of_ble_eq_true rfl)) dX2_soonestForCat_31 ⟨Nat.le_of_ble_eq_true rfl, Nat.le_of_ble_eq_true rfl⟩).run (fun r_4 hr_5 => ?_)
        subst hr_5
        refine rv_top (show _ = bI ((oW ω) ((nw + 0) % 12) ct r) from rfl) ?_
        refine rv_ifeqB (tgt := 78) hx hb dX2_soonestForCat_34 (by decide) (fun c34_6 => ?_) (fun c34_6 => ?_)
        · skip
          refine lv_iinc (v := nI (r + 1)) (lv' := [(3, .int (nI (r + 1))), (0, .ref a), (1, .int (iO b9)), (2, .int (iO o9))]) hx hb dX2_soonestForCat_78 hl (k := 3) rfl (nI_add r 1) (by decide) rfl (fun ls hl => ?_)
          refine lv_goto (tgt := 6) hx hb dX2_soonestForCat_81 (by decide) ?_
          exact ih6 (r + 1) b9 o9 (by omega) (by omega) (by first | exact hb9 | (intro n9 h9; cases h9; omega)) (by first | exact ho9 | exact fun n9 h9 => hT _ _ _ n9 (by omega) (by omega) (by omega) h9) (by rw [← hE, show zN σ - r = (zN σ - (r + 1)) + 1 by omega, scL]; first | rw [if_neg (nt (by assumption))] | rw [if_pos (by assumption), if_pos (by assumption)] | rw [if_pos (by assumption), if_neg (by assumption), if_pos (by assumption)] | rw [if_pos (by assumption), if_neg (by assumption), if_neg (by assumption), if_pos (by assumption)] | rw [if_pos (by assumption), if_neg (by assumption), if_neg (by assumption), if_neg (by assumption)] | rw [if_pos (by assumption), if_neg (by assumption), if_neg (by assumption)] | rw [if_pos (by assumption), if_neg (by assumption)]) ls (lv_sub hl [1, 2, 3, 0] rfl)
        · skip
          refine lv_aload_n hx hb dX2_soonestForCat_37 rfl (lv_at hl 0 rfl) ?_
          refine va_get (D := D) (ci := 2) (v := .ref (o 0)) (C := RX2) (T := TX2) (N := 9) hx hb hts hin2 hown hZ.1 hP 0 rfl rfl 1 (by decide) hf19 (fun _ h9 => h9) rfl dX2_soonestForCat_38 ?_
          refine lv_aload_n hx hb dX2_soonestForCat_41 rfl (lv_at hl 0 rfl) ?_
          refine lv_iconst (v := nI 1) hx hb dX2_soonestForCat_42 (by decide) ?_
          refine vp_callSi (va_runV (As := [.int (nI 1)]) (rest := [.ref (o 0)]) ⟨hx, hb, hml, hown, hts⟩ (c_X2_phaseAfter l D cZ cI a o o' q (nw, true, cg, some ct, some mo, ea) ω ω' σ  1 (by first | assumption | omega) (by first | assumption | omega)) (cwV 1 hts gX2_soonestForCat_X2_phaseAfter rfl rfl rfl (by decide +kernel) ⟨Nat.le_of_ble_eq_true rfl, Nat.le_of_ble_eq_true rfl⟩) ⟨RdP_blind, va_recv hZ.1 hP (ci := 2) (q0 := 0) rfl rfl, RdP_start (hP.sub (ws' := pD cZ cI a o o' q (nw, true, cg, some ct, some mo, ea) ω ω' σ) [0, 1, 2, 3, 4, 5, 6, 7, 8, 9, 10, 11, 12, 13, 14, 15, 16, 17, 18] rfl) hZ⟩ rfl rfl hl.1 rfl (lv_room (Nat.le_of_ble_eq_true rfl)) dX2_soonestForCat_43 ⟨Nat.le_of_ble_eq_true rfl, Nat.le_of_ble_eq_true rfl⟩).run (fun r_7 hr_8 => ?_)
          subst hr_8
          refine rv_top (show _ = nI ((nw + 1) % 12) from rfl) ?_
          refine lv_iload_n hx hb dX2_soonestForCat_46 rfl (lv_at hl 3 rfl) ?_
          refine lv_aload_n hx hb dX2_soonestForCat_47 rfl (lv_at hl 0 rfl) ?_
          refine va_get (D := D) (ci := 2) (v := .int (nI mo)) (C := RX2) (T := TX2) (N := 9) hx hb hts hin2 hown hZ.1 hP 0 rfl rfl 7 (by decide) hf30 (fun _ h9 => h9) rfl dX2_soonestForCat_48 ?_
          refine vp_callSi (va_runV (As := [.int (nI ((nw + 1) % 12)), .int (nI r), .int (nI mo)]) (rest := []) ⟨hx, hb, hml, hown, hts⟩ (c_X1_turnsToCatchFrom l D cZ cI o q ω σ  ((nw + 1) % 12) r mo (by first | assumption | omega) (by first | assumption | omega) (by first | assumption | omega)) (cwV 3 hts gX2_soonestForCat_X1_turnsToCatchFrom rfl rfl rfl (by decide +kernel) ⟨Nat.le_of_ble_eq_true rfl, Nat.le_of_ble_eq_true rfl⟩) ⟨RdP_blind, va_recv hZ.1 hP (ci := 1) (q0 := 1) rfl rfl, RdP_start (hP.sub (ws' := pO cZ cI o q ω σ) [1, 2, 3, 4, 5, 11, 12, 13, 14, 15, 16, 17, 18] rfl) hZ⟩ rfl rfl hl.1 rfl (lv_room (Nat.le_of_ble_eq_true rfl)) dX2_soonestForCat_51 ⟨Nat.le_of_ble_eq_true rfl, Nat.le_of_ble_eq_true rfl⟩).run (fun r_9 hr_10 => ?_)
          subst hr_10
          refine rv_top (show _ = iO ((oT ω) ((nw + 1) % 12) r mo) from rfl) ?_
          refine lv_istore (lv' := [(4, .int (iO ((oT ω) ((nw + 1) % 12) r mo))), (0, .ref a), (1, .int (iO b9)), (2, .int (iO o9)), (3, .int (nI r))]) hx hb dX2_soonestForCat_54 hl (by decide) rfl (fun ls hl => ?_)
          refine lv_iload hx hb dX2_soonestForCat_56 (lv_at hl 0 rfl) ?_
          refine lv_iconst (v := (-1)) hx hb dX2_soonestForCat_58 (by decide) ?_
          refine rv_eqO (tgt := 78) hx hb (fun n9 h9 => Nat.lt_of_le_of_lt (hT _ _ _ n9 (by omega) (by omega) (by omega) h9) (by decide)) dX2_soonestForCat_59 (by decide) (fun c59_11 => ?_) (fun c59_11 => ?_)
          · skip
            refine lv_iinc (v := nI (r + 1)) (lv' := [(3, .int (nI (r + 1))), (4, .int (iO ((oT ω) ((nw + 1) % 12) r mo))), (0, .ref a), (1, .int (iO b9)), (2, .int (iO o9))]) hx hb dX2_soonestForCat_78 hl (k := 4) rfl (nI_add r 1) (by decide) rfl (fun ls hl => ?_)
            refine lv_goto (tgt := 6) hx hb dX2_soonestForCat_81 (by decide) ?_
            exact ih6 (r + 1) b9 o9 (by omega) (by omega) (by first | exact hb9 | (intro n9 h9; cases h9; omega)) (by first | exact ho9 | exact fun n9 h9 => hT _ _ _ n9 (by omega) (by omega) (by omega) h9) (by rw [← hE, show zN σ - r = (zN σ - (r + 1)) + 1 by omega, scL]; first | rw [if_neg (nt (by assumption))] | rw [if_pos (by assumption), if_pos (by assumption)] | rw [if_pos (by assumption), if_neg (by assumption), if_pos (by assumption)] | rw [if_pos (by assumption), if_neg (by assumption), if_neg (by assumption), if_pos (by assumption)] | rw [if_pos (by assumption), if_neg (by assumption), if_neg (by assumption), if_neg (by assumption)] | rw [if_pos (by assumption), if_neg (by assumption), if_neg (by assumption)] | rw [if_pos (by assumption), if_neg (by assumption)]) ls (lv_sub hl [2, 3, 4, 0] rfl)
          · skip
            refine lv_iload_n hx hb dX2_soonestForCat_62 rfl (lv_at hl 2 rfl) ?_
            refine lv_iconst (v := (-1)) hx hb dX2_soonestForCat_63 (by decide) ?_
            refine rv_eqO (tgt := 73) hx hb (fun n9 h9 => Nat.lt_trans (hb9 n9 h9) (by omega)) dX2_soonestForCat_64 (by decide) (fun c64_12 => ?_) (fun c64_12 => ?_)
            · skip
              refine lv_iload hx hb dX2_soonestForCat_73 (lv_at hl 0 rfl) ?_
              refine lv_istore_n (lv' := [(2, .int (iO ((oT ω) ((nw + 1) % 12) r mo))), (4, .int (iO ((oT ω) ((nw + 1) % 12) r mo))), (0, .ref a), (1, .int (iO b9)), (3, .int (nI r))]) hx hb dX2_soonestForCat_75 rfl hl (by decide) rfl (fun ls hl => ?_)
              refine lv_iload_n hx hb dX2_soonestForCat_76 rfl (lv_at hl 4 rfl) ?_
              refine lv_istore_n (lv' := [(1, .int (nI r)), (2, .int (iO ((oT ω) ((nw + 1) % 12) r mo))), (4, .int (iO ((oT ω) ((nw + 1) % 12) r mo))), (0, .ref a), (3, .int (nI r))]) hx hb dX2_soonestForCat_77 rfl hl (by decide) rfl (fun ls hl => ?_)
              refine lv_iinc (v := nI (r + 1)) (lv' := [(3, .int (nI (r + 1))), (1, .int (nI r)), (2, .int (iO ((oT ω) ((nw + 1) % 12) r mo))), (4, .int (iO ((oT ω) ((nw + 1) % 12) r mo))), (0, .ref a)]) hx hb dX2_soonestForCat_78 hl (k := 4) rfl (nI_add r 1) (by decide) rfl (fun ls hl => ?_)
              refine lv_goto (tgt := 6) hx hb dX2_soonestForCat_81 (by decide) ?_
              exact ih6 (r + 1) (some r) ((oT ω) ((nw + 1) % 12) r mo) (by omega) (by omega) (by first | exact hb9 | (intro n9 h9; cases h9; omega)) (by first | exact ho9 | exact fun n9 h9 => hT _ _ _ n9 (by omega) (by omega) (by omega) h9) (by rw [← hE, show zN σ - r = (zN σ - (r + 1)) + 1 by omega, scL]; first | rw [if_neg (nt (by assumption))] | rw [if_pos (by assumption), if_pos (by assumption)] | rw [if_pos (by assumption), if_neg (by assumption), if_pos (by assumption)] | rw [if_pos (by assumption), if_neg (by assumption), if_neg (by assumption), if_pos (by assumption)] | rw [if_pos (by assumption), if_neg (by assumption), if_neg (by assumption), if_neg (by assumption)] | rw [if_pos (by assumption), if_neg (by assumption), if_neg (by assumption)] | rw [if_pos (by assumption), if_neg (by assumption)]) ls (lv_sub hl [4, 1, 2, 0] rfl)
            · skip
              refine lv_iload hx hb dX2_soonestForCat_67 (lv_at hl 0 rfl) ?_
              refine lv_iload_n hx hb dX2_soonestForCat_69 rfl (lv_at hl 3 rfl) ?_
              refine rv_geOO (tgt := 78) hx hb (fun n9 h9 => Nat.lt_of_le_of_lt (hT _ _ _ n9 (by omega) (by omega) (by omega) h9) (by decide)) (fun n9 h9 => Nat.lt_of_le_of_lt (ho9 n9 h9) (by decide)) dX2_soonestForCat_70 (by decide) (fun c70_13 => ?_) (fun c70_13 => ?_)
              · skip
                refine lv_iinc (v := nI (r + 1)) (lv' := [(3, .int (nI (r + 1))), (4, .int (iO ((oT ω) ((nw + 1) % 12) r mo))), (0, .ref a), (1, .int (iO b9)), (2, .int (iO o9))]) hx hb dX2_soonestForCat_78 hl (k := 4) rfl (nI_add r 1) (by decide) rfl (fun ls hl => ?_)
                refine lv_goto (tgt := 6) hx hb dX2_soonestForCat_81 (by decide) ?_
                exact ih6 (r + 1) b9 o9 (by omega) (by omega) (by first | exact hb9 | (intro n9 h9; cases h9; omega)) (by first | exact ho9 | exact fun n9 h9 => hT _ _ _ n9 (by omega) (by omega) (by omega) h9) (by rw [← hE, show zN σ - r = (zN σ - (r + 1)) + 1 by omega, scL]; first | rw [if_neg (nt (by assumption))] | rw [if_pos (by assumption), if_pos (by assumption)] | rw [if_pos (by assumption), if_neg (by assumption), if_pos (by assumption)] | rw [if_pos (by assumption), if_neg (by assumption), if_neg (by assumption), if_pos (by assumption)] | rw [if_pos (by assumption), if_neg (by assumption), if_neg (by assumption), if_neg (by assumption)] | rw [if_pos (by assumption), if_neg (by assumption), if_neg (by assumption)] | rw [if_pos (by assumption), if_neg (by assumption)]) ls (lv_sub hl [2, 3, 4, 0] rfl)
              · skip
                refine lv_iload hx hb dX2_soonestForCat_73 (lv_at hl 0 rfl) ?_
                refine lv_istore_n (lv' := [(2, .int (iO ((oT ω) ((nw + 1) % 12) r mo))), (4, .int (iO ((oT ω) ((nw + 1) % 12) r mo))), (0, .ref a), (1, .int (iO b9)), (3, .int (nI r))]) hx hb dX2_soonestForCat_75 rfl hl (by decide) rfl (fun ls hl => ?_)
                refine lv_iload_n hx hb dX2_soonestForCat_76 rfl (lv_at hl 4 rfl) ?_
                refine lv_istore_n (lv' := [(1, .int (nI r)), (2, .int (iO ((oT ω) ((nw + 1) % 12) r mo))), (4, .int (iO ((oT ω) ((nw + 1) % 12) r mo))), (0, .ref a), (3, .int (nI r))]) hx hb dX2_soonestForCat_77 rfl hl (by decide) rfl (fun ls hl => ?_)
                refine lv_iinc (v := nI (r + 1)) (lv' := [(3, .int (nI (r + 1))), (1, .int (nI r)), (2, .int (iO ((oT ω) ((nw + 1) % 12) r mo))), (4, .int (iO ((oT ω) ((nw + 1) % 12) r mo))), (0, .ref a)]) hx hb dX2_soonestForCat_78 hl (k := 4) rfl (nI_add r 1) (by decide) rfl (fun ls hl => ?_)
                refine lv_goto (tgt := 6) hx hb dX2_soonestForCat_81 (by decide) ?_
                exact ih6 (r + 1) (some r) ((oT ω) ((nw + 1) % 12) r mo) (by omega) (by omega) (by first | exact hb9 | (intro n9 h9; cases h9; omega)) (by first | exact ho9 | exact fun n9 h9 => hT _ _ _ n9 (by omega) (by omega) (by omega) h9) (by rw [← hE, show zN σ - r = (zN σ - (r + 1)) + 1 by omega, scL]; first | rw [if_neg (nt (by assumption))] | rw [if_pos (by assumption), if_pos (by assumption)] | rw [if_pos (by assumption), if_neg (by assumption), if_pos (by assumption)] | rw [if_pos (by assumption), if_neg (by assumption), if_neg (by assumption), if_pos (by assumption)] | rw [if_pos (by assumption), if_neg (by assumption), if_neg (by assumption), if_neg (by assumption)] | rw [if_pos (by assumption), if_neg (by assumption), if_neg (by assumption)] | rw [if_pos (by assumption), if_neg (by assumption)]) ls (lv_sub hl [4, 1, 2, 0] rfl)
  exact loop6 (zN σ + 1) 0 none none (by omega) (by omega) (fun n h => by cases h) (fun n h => by cases h) rfl ls (lv_sub hl [3, 2, 1, 0] rfl)

set_option maxHeartbeats 4000000 in
set_option maxRecDepth 100000 in
theorem c_X2_nearestForCat (l : Launch) (D : va_G) (cZ cI : ClassId) (a : Nat) (o : Nat → Nat) (o' : Nat → Nat) (q : Nat → Nat) (nw : Nat) (cg : Bool) (ct : Nat) (mo : Nat) (ea : Nat) (ω : OS) (ω' : OS) (σ : HS)   (hσ : zOk σ) (hct : ct < zN σ) (hmo : mo < zN σ) (hnw : nw < 2 ^ 30) : Met l yX2_nearestForCat wsX2_nearestForCat ({ frames := 3, cells := 0, slots := 0, locals := 68 }) (RdP D cZ cI [.ref a] (pD cZ cI a o o' q (nw, true, cg, some ct, some mo, ea) ω ω' σ)) (vp_Si (fun r0 => r0 = nI (ncF (oW ω) σ nw ct mo))) 0 0 (fun _ => False) := by
  refine Met.ofW (cc := cX2_nearestForCat) (maxL := 6) (ret := (some .int)) (by decide) rfl ?_
  intro p e s m args below meth c s₁ B hml hv
  obtain ⟨rfl, hP, hZ⟩ := hv
  have hx := B.exec
  have hb := B.bytes
  have hr := B.returns
  have hts := atoms_spec (ws := wsX2_nearestForCat) B.pre
  have hown : s.vm.findClass RX2 = some m.cls := findClass_of_methodNamed B.named
  have hlocks := B.notSynchronized
  have hP : va_P D vwCl (pD cZ cI a o o' q (nw, true, cg, some ct, some mo, ea) ω ω' σ) s.heap := hP
  have hl := lv_entry ([.ref a]) (n := 6) (Nat.le_of_ble_eq_true rfl)
  rw [lg_entry_eq]
  generalize (lg_sl ([.ref a]) ++ List.replicate (6 - (lg_sl ([.ref a])).length) Slot.unset).toArray = ls at hl ⊢
  have hl : lv_has ls 6 [(0, .ref a)] := hl
  have hin2 : ∀ w ∈ u_ws RX2 TX2 9, w ∈ wsX2_nearestForCat := by decide +kernel
  have hin0 : ∀ w ∈ u_ws RX0 TX0 9, w ∈ wsX2_nearestForCat := by decide +kernel
  have hf10 := hts (.fieldLink RX2 10 "DoorChase" "house" "LDoorChase$House;") (by decide +kernel)
  have hf19 := hts (.fieldLink RX2 19 "DoorChase" "outlook" "LDoorChase$Outlook;") (by decide +kernel)
  have hf26 := hts (.fieldLink RX2 26 "DoorChase" "cat" "I") (by decide +kernel)
  have hf30 := hts (.fieldLink RX2 30 "DoorChase" "mouse" "I") (by decide +kernel)
  have hf33 := hts (.fieldLink RX2 33 "DoorChase$House" "roomCount" "I") (by decide +kernel)
  obtain ⟨hσ1, hσ2, hσ3, hσ4, hσ5, hσ6, hσ7⟩ := id hσ
  refine lv_aload_n hx hb dX2_nearestForCat_0 rfl (lv_at hl 0 rfl) ?_
  refine va_get (D := D) (ci := 2) (v := .int (nI ct)) (C := RX2) (T := TX2) (N := 9) hx hb hts hin2 hown hZ.1 hP 0 rfl rfl 6 (by decide) hf26 (fun _ h9 => h9) rfl dX2_nearestForCat_1 ?_
  refine lv_istore_n (lv' := [(1, .int (nI ct)), (0, .ref a)]) hx hb dX2_nearestForCat_4 rfl hl (by decide) rfl (fun ls hl => ?_)
  refine lv_bipush (v := nI 9) hx hb dX2_nearestForCat_5 (by decide) ?_
  refine lv_istore_n (lv' := [(2, .int (nI 9)), (1, .int (nI ct)), (0, .ref a)]) hx hb dX2_nearestForCat_7 rfl hl (by decide) rfl (fun ls hl => ?_)
  refine lv_iconst (v := nI 0) hx hb dX2_nearestForCat_8 (by decide) ?_
  refine lv_istore_n (lv' := [(3, .int (nI 0)), (2, .int (nI 9)), (1, .int (nI ct)), (0, .ref a)]) hx hb dX2_nearestForCat_9 rfl hl (by decide) rfl (fun ls hl => ?_)
  have loop10 : ∀ (n : Nat) (r : Nat) (b9 : Nat) (e9 : Nat), zN σ + 1 ≤ r + n → (r ≤ zN σ) → (e9 ≤ 9) → (ncL (oW ω) σ ((nw + 0) % 12) mo ct (zN σ - r) r b9 e9 = ncF (oW ω) σ nw ct mo) → ∀ (ls : Array Slot), lv_has ls 6 [(0, .ref a), (1, .int (nI b9)), (2, .int (nI e9)), (3, .int (nI r))] → W p l e (headSpec wsX2_nearestForCat ({ frames := 3, cells := 0, slots := 0, locals := 68 })).room s m ([.ref a] : List Value).toArray below meth c s.heap [] 0 0 (MQ below (vp_Si (fun r0 => r0 = nI (ncF (oW ω) σ nw ct mo))) ([.ref a] : List Value).toArray s 0 0 (fun _ => False)) (F0 m 10 ls []) := by
    intro n
    induction n with
    | zero =>
      intro r b9 e9 hmeas hr8 he9 hE ls hl
      exact absurd hmeas (by omega)
    | succ n ih10 =>
      intro r b9 e9 hmeas hr8 he9 hE ls hl
      refine lv_iload_n hx hb dX2_nearestForCat_10 rfl (lv_at hl 3 rfl) ?_
      refine lv_aload_n hx hb dX2_nearestForCat_11 rfl (lv_at hl 0 rfl) ?_
      refine va_get (D := D) (ci := 2) (v := .ref (q 0)) (C := RX2) (T := TX2) (N := 9) hx hb hts hin2 hown hZ.1 hP 0 rfl rfl 0 (by decide) hf10 (fun _ h9 => h9) rfl dX2_nearestForCat_12 ?_
      refine va_get (D := D) (ci := 0) (v := .int (nI (zN σ))) (C := RX0) (T := TX0) (N := 9) hx hb hts hin0 hown hZ.1 hP 11 rfl rfl 0 (by decide) hf33 (fun _ h9 => h9) rfl dX2_nearestForCat_15 ?_
      refine rv_ge (tgt := 87) hx hb (by omega) (by omega) dX2_nearestForCat_18 (by decide) (fun c18_1 => ?_) (fun c18_1 => ?_)
      · skip
        refine lv_iload_n hx hb dX2_nearestForCat_87 rfl (lv_at hl 1 rfl) ?_
        exact W.iret (v := nI b9) hx hb hr (fun t ht hW => ⟨_, rfl, (show nI b9 = nI (ncF (oW ω) σ nw ct mo) from by rw [← hE, show zN σ - r = 0 by omega]; rfl), ht⟩) (fun q h => absurd h List.not_mem_nil) dX2_nearestForCat_88
      · skip
        refine lv_aload_n hx hb dX2_nearestForCat_21 rfl (lv_at hl 0 rfl) ?_
        refine va_get (D := D) (ci := 2) (v := .ref (o 0)) (C := RX2) (T := TX2) (N := 9) hx hb hts hin2 hown hZ.1 hP 0 rfl rfl 1 (by decide) hf19 (fun _ h9 => h9) rfl dX2_nearestForCat_22 ?_
        refine lv_aload_n hx hb dX2_nearestForCat_25 rfl (lv_at hl 0 rfl) ?_
        refine lv_iconst (v := nI 0) hx hb dX2_nearestForCat_26 (by decide) ?_
        refine vp_callSi (va_runV (As := [.int (nI 0)]) (rest := [.ref (o 0)]) ⟨hx, hb, hml, hown, hts⟩ (c_X2_phaseAfter l D cZ cI a o o' q (nw, true, cg, some ct, some mo, ea) ω ω' σ  0 (by first | assumption | omega) (by first | assumption | omega)) (cwV 1 hts gX2_nearestForCat_X2_phaseAfter rfl rfl rfl (by decide +kernel) ⟨Nat.le_of_ble_eq_true rfl, Nat.le_of_ble_eq_true rfl⟩) ⟨RdP_blind, va_recv hZ.1 hP (ci := 2) (q0 := 0) rfl rfl, RdP_start (hP.sub (ws' := pD cZ cI a o o' q (nw, true, cg, some ct, some mo, ea) ω ω' σ) [0, 1, 2, 3, 4, 5, 6, 7, 8, 9, 10, 11, 12, 13, 14, 15, 16, 17, 18] rfl) hZ⟩ rfl rfl hl.1 rfl (lv_room (Nat.le_of_ble_eq_true rfl)) dX2_nearestForCat_27 ⟨Nat.le_of_ble_eq_true rfl, Nat.le_of_ble_eq_true rfl⟩).run (fun r_2 hr_3 => ?_)
        subst hr_3
        refine rv_top (show _ = nI ((nw + 0) % 12) from rfl) ?_
        refine lv_aload_n hx hb dX2_nearestForCat_30 rfl (lv_at hl 0 rfl) ?_
        refine va_get (D := D) (ci := 2) (v := .int (nI ct)) (C := RX2) (T := TX2) (N := 9) hx hb hts hin2 hown hZ.1 hP 0 rfl rfl 6 (by decide) hf26 (fun _ h9 => h9) rfl dX2_nearestForCat_31 ?_
        refine lv_iload_n hx hb dX2_nearestForCat_34 rfl (lv_at hl 3 rfl) ?_
        refine vp_callSi (va_runV (As := [.int (nI ((nw + 0) % 12)), .int (nI ct), .int (nI r)]) (rest := []) ⟨hx, hb, hml, hown, hts⟩ (c_X1_canGo l D cZ cI o q ω σ  ((nw + 0) % 12) ct r (by first | assumption | omega) (by first | assumption | omega) (by first | assumption | omega)) (cwV 3 hts gX2_nearestForCat_X1_canGo rfl rfl rfl (by decide +kernel) ⟨Nat.le_of_ble_eq_true rfl, Nat.le_of_ble_eq_true rfl⟩) ⟨RdP_blind, va_recv hZ.1 hP (ci := 1) (q0 := 1) rfl rfl, RdP_start (hP.sub (ws' := pO cZ cI o q ω σ) [1, 2, 3, 4, 5, 11, 12, 13, 14, 15, 16, 17, 18] rfl) hZ⟩ rfl rfl hl.1 rfl (lv_room (Nat.le_of_ble_eq_true rfl)) dX2_nearestForCat_35 ⟨Nat.le_of_ble_eq_true rfl, Nat.le_of_ble_eq_true rfl⟩).run (fun r_4 hr_5 => ?_)
        subst hr_5
        refine rv_top (show _ = bI ((oW ω) ((nw + 0) % 12) ct r) from rfl) ?_
        refine rv_ifeqB (tgt := 81) hx hb dX2_nearestForCat_38 (by decide) (fun c38_6 => ?_) (fun c38_6 => ?_)
        · skip
          refine lv_iinc (v := nI (r + 1)) (lv' := [(3, .int (nI (r + 1))), (0, .ref a), (1, .int (nI b9)), (2, .int (nI e9))]) hx hb dX2_nearestForCat_81 hl (k := 3) rfl (nI_add r 1) (by decide) rfl (fun ls hl => ?_)
          refine lv_goto (tgt := 10) hx hb dX2_nearestForCat_84 (by decide) ?_
          exact ih10 (r + 1) b9 e9 (by omega) (by omega) (by first | omega | (have := hAway_get σ r mo; omega)) (by rw [← hE, show zN σ - r = (zN σ - (r + 1)) + 1 by omega, ncL]; first | rw [if_neg (nt (by assumption))] | rw [if_pos (by assumption), if_pos (by assumption)] | rw [if_pos (by assumption), if_neg (by assumption), if_pos (by assumption)] | rw [if_pos (by assumption), if_neg (by assumption), if_neg (by assumption), if_pos (by assumption)] | rw [if_pos (by assumption), if_neg (by assumption), if_neg (by assumption), if_neg (by assumption)] | rw [if_pos (by assumption), if_neg (by assumption), if_neg (by assumption)] | rw [if_pos (by assumption), if_neg (by assumption)]) ls (lv_sub hl [1, 2, 3, 0] rfl)
        · skip
          refine lv_aload_n hx hb dX2_nearestForCat_41 rfl (lv_at hl 0 rfl) ?_
          refine va_get (D := D) (ci := 2) (v := .ref (q 0)) (C := RX2) (T := TX2) (N := 9) hx hb hts hin2 hown hZ.1 hP 0 rfl rfl 0 (by decide) hf10 (fun _ h9 => h9) rfl dX2_nearestForCat_42 ?_
          refine lv_iload_n hx hb dX2_nearestForCat_45 rfl (lv_at hl 3 rfl) ?_
          refine lv_aload_n hx hb dX2_nearestForCat_46 rfl (lv_at hl 0 rfl) ?_
          refine va_get (D := D) (ci := 2) (v := .int (nI mo)) (C := RX2) (T := TX2) (N := 9) hx hb hts hin2 hown hZ.1 hP 0 rfl rfl 7 (by decide) hf30 (fun _ h9 => h9) rfl dX2_nearestForCat_47 ?_
          refine vp_callSi (va_runV (As := [.int (nI r), .int (nI mo)]) (rest := []) ⟨hx, hb, hml, hown, hts⟩ (c_X0_doorsFrom l D cZ cI q σ  r mo (by first | assumption | omega) (by first | assumption | omega) (by first | assumption | omega)) (cwV 2 hts gX2_nearestForCat_X0_doorsFrom rfl rfl rfl (by decide +kernel) ⟨Nat.le_of_ble_eq_true rfl, Nat.le_of_ble_eq_true rfl⟩) ⟨RdP_blind, va_recv hZ.1 hP (ci := 0) (q0 := 11) rfl rfl, RdP_start (hP.sub (ws' := pH cZ cI q σ) [11, 12, 13, 14, 15, 16, 17, 18] rfl) hZ⟩ rfl rfl hl.1 rfl (lv_room (Nat.le_of_ble_eq_true rfl)) dX2_nearestForCat_50 ⟨Nat.le_of_ble_eq_true rfl, Nat.le_of_ble_eq_true rfl⟩).run (fun r_7 hr_8 => ?_)
          subst hr_8
          refine rv_top (show _ = iO (hAway σ r mo) from rfl) ?_
          refine lv_istore (lv' := [(4, .int (iO (hAway σ r mo))), (0, .ref a), (1, .int (nI b9)), (2, .int (nI e9)), (3, .int (nI r))]) hx hb dX2_nearestForCat_53 hl (by decide) rfl (fun ls hl => ?_)
          refine lv_iload hx hb dX2_nearestForCat_55 (lv_at hl 0 rfl) ?_
          refine lv_iconst (v := (-1)) hx hb dX2_nearestForCat_57 (by decide) ?_
          refine rv_neO (tgt := 66) hx hb (hAway_b _ _ _) dX2_nearestForCat_58 (by decide) (fun c58_9 => ?_) (fun c58_9 => ?_)
          · skip
            refine lv_iload hx hb dX2_nearestForCat_66 (lv_at hl 0 rfl) ?_
            refine rv_top (show iO (hAway σ r mo) = nI ((hAway σ r mo).getD 8) from iO_getD 8 (by assumption)) ?_
            refine lv_istore (lv' := [(5, .int (nI ((hAway σ r mo).getD 8))), (4, .int (iO (hAway σ r mo))), (0, .ref a), (1, .int (nI b9)), (2, .int (nI e9)), (3, .int (nI r))]) hx hb dX2_nearestForCat_68 hl (by decide) rfl (fun ls hl => ?_)
            refine lv_iload hx hb dX2_nearestForCat_70 (lv_at hl 0 rfl) ?_
            refine lv_iload_n hx hb dX2_nearestForCat_72 rfl (lv_at hl 4 rfl) ?_
            refine rv_ge (tgt := 81) hx hb (Nat.lt_of_le_of_lt (hAway_get _ _ _) (by decide)) (by omega) dX2_nearestForCat_73 (by decide) (fun c73_10 => ?_) (fun c73_10 => ?_)
            · skip
              refine lv_iinc (v := nI (r + 1)) (lv' := [(3, .int (nI (r + 1))), (5, .int (nI ((hAway σ r mo).getD 8))), (4, .int (iO (hAway σ r mo))), (0, .ref a), (1, .int (nI b9)), (2, .int (nI e9))]) hx hb dX2_nearestForCat_81 hl (k := 5) rfl (nI_add r 1) (by decide) rfl (fun ls hl => ?_)
              refine lv_goto (tgt := 10) hx hb dX2_nearestForCat_84 (by decide) ?_
              exact ih10 (r + 1) b9 e9 (by omega) (by omega) (by first | omega | (have := hAway_get σ r mo; omega)) (by rw [← hE, show zN σ - r = (zN σ - (r + 1)) + 1 by omega, ncL]; first | rw [if_neg (nt (by assumption))] | rw [if_pos (by assumption), if_pos (by assumption)] | rw [if_pos (by assumption), if_neg (by assumption), if_pos (by assumption)] | rw [if_pos (by assumption), if_neg (by assumption), if_neg (by assumption), if_pos (by assumption)] | rw [if_pos (by assumption), if_neg (by assumption), if_neg (by assumption), if_neg (by assumption)] | rw [if_pos (by assumption), if_neg (by assumption), if_neg (by assumption)] | rw [if_pos (by assumption), if_neg (by assumption)]) ls (lv_sub hl [3, 4, 5, 0] rfl)
            · skip
              refine lv_iload hx hb dX2_nearestForCat_76 (lv_at hl 0 rfl) ?_
              refine lv_istore_n (lv' := [(2, .int (nI ((hAway σ r mo).getD 8))), (5, .int (nI ((hAway σ r mo).getD 8))), (4, .int (iO (hAway σ r mo))), (0, .ref a), (1, .int (nI b9)), (3, .int (nI r))]) hx hb dX2_nearestForCat_78 rfl hl (by decide) rfl (fun ls hl => ?_)
              refine lv_iload_n hx hb dX2_nearestForCat_79 rfl (lv_at hl 5 rfl) ?_
              refine lv_istore_n (lv' := [(1, .int (nI r)), (2, .int (nI ((hAway σ r mo).getD 8))), (5, .int (nI ((hAway σ r mo).getD 8))), (4, .int (iO (hAway σ r mo))), (0, .ref a), (3, .int (nI r))]) hx hb dX2_nearestForCat_80 rfl hl (by decide) rfl (fun ls hl => ?_)
              refine lv_iinc (v := nI (r + 1)) (lv' := [(3, .int (nI (r + 1))), (1, .int (nI r)), (2, .int (nI ((hAway σ r mo).getD 8))), (5, .int (nI ((hAway σ r mo).getD 8))), (4, .int (iO (hAway σ r mo))), (0, .ref a)]) hx hb dX2_nearestForCat_81 hl (k := 5) rfl (nI_add r 1) (by decide) rfl (fun ls hl => ?_)
              refine lv_goto (tgt := 10) hx hb dX2_nearestForCat_84 (by decide) ?_
              exact ih10 (r + 1) r ((hAway σ r mo).getD 8) (by omega) (by omega) (by first | omega | (have := hAway_get σ r mo; omega)) (by rw [← hE, show zN σ - r = (zN σ - (r + 1)) + 1 by omega, ncL]; first | rw [if_neg (nt (by assumption))] | rw [if_pos (by assumption), if_pos (by assumption)] | rw [if_pos (by assumption), if_neg (by assumption), if_pos (by assumption)] | rw [if_pos (by assumption), if_neg (by assumption), if_neg (by assumption), if_pos (by assumption)] | rw [if_pos (by assumption), if_neg (by assumption), if_neg (by assumption), if_neg (by assumption)] | rw [if_pos (by assumption), if_neg (by assumption), if_neg (by assumption)] | rw [if_pos (by assumption), if_neg (by assumption)]) ls (lv_sub hl [5, 1, 2, 0] rfl)
          · skip
            refine lv_bipush (v := nI 8) hx hb dX2_nearestForCat_61 (by decide) ?_
            refine rv_top (show nI 8 = nI ((hAway σ r mo).getD 8) from by rw [show hAway σ r mo = none by assumption]; rfl) ?_
            refine lv_goto (tgt := 68) hx hb dX2_nearestForCat_63 (by decide) ?_
            refine lv_istore (lv' := [(5, .int (nI ((hAway σ r mo).getD 8))), (4, .int (iO (hAway σ r mo))), (0, .ref a), (1, .int (nI b9)), (2, .int (nI e9)), (3, .int (nI r))]) hx hb dX2_nearestForCat_68 hl (by decide) rfl (fun ls hl => ?_)
            refine lv_iload hx hb dX2_nearestForCat_70 (lv_at hl 0 rfl) ?_
            refine lv_iload_n hx hb dX2_nearestForCat_72 rfl (lv_at hl 4 rfl) ?_
            refine rv_ge (tgt := 81) hx hb (Nat.lt_of_le_of_lt (hAway_get _ _ _) (by decide)) (by omega) dX2_nearestForCat_73 (by decide) (fun c73_11 => ?_) (fun c73_11 => ?_)
            · skip
              refine lv_iinc (v := nI (r + 1)) (lv' := [(3, .int (nI (r + 1))), (5, .int (nI ((hAway σ r mo).getD 8))), (4, .int (iO (hAway σ r mo))), (0, .ref a), (1, .int (nI b9)), (2, .int (nI e9))]) hx hb dX2_nearestForCat_81 hl (k := 5) rfl (nI_add r 1) (by decide) rfl (fun ls hl => ?_)
              refine lv_goto (tgt := 10) hx hb dX2_nearestForCat_84 (by decide) ?_
              exact ih10 (r + 1) b9 e9 (by omega) (by omega) (by first | omega | (have := hAway_get σ r mo; omega)) (by rw [← hE, show zN σ - r = (zN σ - (r + 1)) + 1 by omega, ncL]; first | rw [if_neg (nt (by assumption))] | rw [if_pos (by assumption), if_pos (by assumption)] | rw [if_pos (by assumption), if_neg (by assumption), if_pos (by assumption)] | rw [if_pos (by assumption), if_neg (by assumption), if_neg (by assumption), if_pos (by assumption)] | rw [if_pos (by assumption), if_neg (by assumption), if_neg (by assumption), if_neg (by assumption)] | rw [if_pos (by assumption), if_neg (by assumption), if_neg (by assumption)] | rw [if_pos (by assumption), if_neg (by assumption)]) ls (lv_sub hl [3, 4, 5, 0] rfl)
            · skip
              refine lv_iload hx hb dX2_nearestForCat_76 (lv_at hl 0 rfl) ?_
              refine lv_istore_n (lv' := [(2, .int (nI ((hAway σ r mo).getD 8))), (5, .int (nI ((hAway σ r mo).getD 8))), (4, .int (iO (hAway σ r mo))), (0, .ref a), (1, .int (nI b9)), (3, .int (nI r))]) hx hb dX2_nearestForCat_78 rfl hl (by decide) rfl (fun ls hl => ?_)
              refine lv_iload_n hx hb dX2_nearestForCat_79 rfl (lv_at hl 5 rfl) ?_
              refine lv_istore_n (lv' := [(1, .int (nI r)), (2, .int (nI ((hAway σ r mo).getD 8))), (5, .int (nI ((hAway σ r mo).getD 8))), (4, .int (iO (hAway σ r mo))), (0, .ref a), (3, .int (nI r))]) hx hb dX2_nearestForCat_80 rfl hl (by decide) rfl (fun ls hl => ?_)
              refine lv_iinc (v := nI (r + 1)) (lv' := [(3, .int (nI (r + 1))), (1, .int (nI r)), (2, .int (nI ((hAway σ r mo).getD 8))), (5, .int (nI ((hAway σ r mo).getD 8))), (4, .int (iO (hAway σ r mo))), (0, .ref a)]) hx hb dX2_nearestForCat_81 hl (k := 5) rfl (nI_add r 1) (by decide) rfl (fun ls hl => ?_)
              refine lv_goto (tgt := 10) hx hb dX2_nearestForCat_84 (by decide) ?_
              exact ih10 (r + 1) r ((hAway σ r mo).getD 8) (by omega) (by omega) (by first | omega | (have := hAway_get σ r mo; omega)) (by rw [← hE, show zN σ - r = (zN σ - (r + 1)) + 1 by omega, ncL]; first | rw [if_neg (nt (by assumption))] | rw [if_pos (by assumption), if_pos (by assumption)] | rw [if_pos (by assumption), if_neg (by assumption), if_pos (by assumption)] | rw [if_pos (by assumption), if_neg (by assumption), if_neg (by assumption), if_pos (by assumption)] | rw [if_pos (by assumption), if_neg (by assumption), if_neg (by assumption), if_neg (by assumption)] | rw [if_pos (by assumption), if_neg (by assumption), if_neg (by assumption)] | rw [if_pos (by assumption), if_neg (by assumption)]) ls (lv_sub hl [5, 1, 2, 0] rfl)
  exact loop10 (zN σ + 1) 0 ct 9 (by omega) (by omega) (by omega) rfl ls (lv_sub hl [3, 2, 1, 0] rfl)

set_option maxHeartbeats 4000000 in
set_option maxRecDepth 100000 in
theorem c_X2_bestGo (l : Launch) (D : va_G) (cZ cI : ClassId) (a : Nat) (o : Nat → Nat) (o' : Nat → Nat) (q : Nat → Nat) (nw : Nat) (cg : Bool) (ct : Nat) (mo : Nat) (ea : Nat) (ω : OS) (ω' : OS) (σ : HS)   (hσ : zOk σ) (hct : ct < zN σ) (hmo : mo < zN σ) (hnw : nw < 2 ^ 30) (hT : tOk ω) : Met l yX2_bestGo wsX2_bestGo ({ frames := 4, cells := 0, slots := 0, locals := 93 }) (RdP D cZ cI [.ref a] (pD cZ cI a o o' q (nw, true, cg, some ct, some mo, ea) ω ω' σ)) (vp_Si (fun r0 => r0 = nI (bestF (oW ω) (oT ω) σ nw ct mo))) 0 0 (fun _ => False) := by
  refine Met.ofW (cc := cX2_bestGo) (maxL := 2) (ret := (some .int)) (by decide) rfl ?_
  intro p e s m args below meth c s₁ B hml hv
  obtain ⟨rfl, hP, hZ⟩ := hv
  have hx := B.exec
  have hb := B.bytes
  have hr := B.returns
  have hts := atoms_spec (ws := wsX2_bestGo) B.pre
  have hown : s.vm.findClass RX2 = some m.cls := findClass_of_methodNamed B.named
  have hlocks := B.notSynchronized
  have hP : va_P D vwCl (pD cZ cI a o o' q (nw, true, cg, some ct, some mo, ea) ω ω' σ) s.heap := hP
  have hl := lv_entry ([.ref a]) (n := 2) (Nat.le_of_ble_eq_true rfl)
  rw [lg_entry_eq]
  generalize (lg_sl ([.ref a]) ++ List.replicate (2 - (lg_sl ([.ref a])).length) Slot.unset).toArray = ls at hl ⊢
  have hl : lv_has ls 2 [(0, .ref a)] := hl
  have hin2 : ∀ w ∈ u_ws RX2 TX2 9, w ∈ wsX2_bestGo := by decide +kernel
  have hf107 := hts (.fieldLink RX2 107 "DoorChase" "isGoingOn" "Z") (by decide +kernel)
  obtain ⟨hσ1, hσ2, hσ3, hσ4, hσ5, hσ6, hσ7⟩ := id hσ
  refine lv_aload_n hx hb dX2_bestGo_0 rfl (lv_at hl 0 rfl) ?_
  refine va_get (D := D) (ci := 2) (v := .int (bI true)) (C := RX2) (T := TX2) (N := 9) hx hb hts hin2 hown hZ.1 hP 0 rfl rfl 4 (by decide) hf107 (fun _ h9 => h9) rfl dX2_bestGo_1 ?_
  refine rv_ifneB (tgt := 9) hx hb dX2_bestGo_4 (by decide) (fun c4_1 => ?_) (fun c4_1 => ?_)
  · skip
    refine lv_aload_n hx hb dX2_bestGo_9 rfl (lv_at hl 0 rfl) ?_
    refine vp_callSi (va_runV (As := []) (rest := []) ⟨hx, hb, hml, hown, hts⟩ (c_X2_isCatsTurn l D cZ cI a o o' q (nw, true, cg, some ct, some mo, ea) ω ω' σ   (by first | assumption | omega)) (cwV 0 hts gX2_bestGo_X2_isCatsTurn rfl rfl rfl (by decide +kernel) ⟨Nat.le_of_ble_eq_true rfl, Nat.le_of_ble_eq_true rfl⟩) ⟨RdP_blind, va_recv hZ.1 hP (ci := 2) (q0 := 0) rfl rfl, RdP_start (hP.sub (ws' := pD cZ cI a o o' q (nw, true, cg, some ct, some mo, ea) ω ω' σ) [0, 1, 2, 3, 4, 5, 6, 7, 8, 9, 10, 11, 12, 13, 14, 15, 16, 17, 18] rfl) hZ⟩ rfl rfl hl.1 rfl (lv_room (Nat.le_of_ble_eq_true rfl)) dX2_bestGo_10 ⟨Nat.le_of_ble_eq_true rfl, Nat.le_of_ble_eq_true rfl⟩).run (fun r_2 hr_3 => ?_)
    subst hr_3
    refine rv_top (show _ = bI (isC (nw)) from rfl) ?_
    refine rv_ifneB (tgt := 21) hx hb dX2_bestGo_13 (by decide) (fun c13_4 => ?_) (fun c13_4 => ?_)
    · skip
      refine lv_aload_n hx hb dX2_bestGo_21 rfl (lv_at hl 0 rfl) ?_
      refine vp_callSi (va_runV (As := []) (rest := []) ⟨hx, hb, hml, hown, hts⟩ (c_X2_soonestForCat l D cZ cI a o o' q nw cg ct mo ea ω ω' σ   (by first | assumption | omega) (by first | assumption | omega) (by first | assumption | omega) (by first | assumption | omega) (by first | assumption | omega)) (cwV 0 hts gX2_bestGo_X2_soonestForCat rfl rfl rfl (by decide +kernel) ⟨Nat.le_of_ble_eq_true rfl, Nat.le_of_ble_eq_true rfl⟩) ⟨RdP_blind, va_recv hZ.1 hP (ci := 2) (q0 := 0) rfl rfl, RdP_start (hP.sub (ws' := pD cZ cI a o o' q (nw, true, cg, some ct, some mo, ea) ω ω' σ) [0, 1, 2, 3, 4, 5, 6, 7, 8, 9, 10, 11, 12, 13, 14, 15, 16, 17, 18] rfl) hZ⟩ rfl rfl hl.1 rfl (lv_room (Nat.le_of_ble_eq_true rfl)) dX2_bestGo_22 ⟨Nat.le_of_ble_eq_true rfl, Nat.le_of_ble_eq_true rfl⟩).run (fun r_5 hr_6 => ?_)
      subst hr_6
      refine rv_top (show _ = iO (scF ((oW ω)) ((oT ω)) σ nw ct mo) from rfl) ?_
      refine lv_istore_n (lv' := [(1, .int (iO (scF ((oW ω)) ((oT ω)) σ nw ct mo))), (0, .ref a)]) hx hb dX2_bestGo_25 rfl hl (by decide) rfl (fun ls hl => ?_)
      refine lv_iload_n hx hb dX2_bestGo_26 rfl (lv_at hl 0 rfl) ?_
      refine lv_iconst (v := (-1)) hx hb dX2_bestGo_27 (by decide) ?_
      refine rv_eqO (tgt := 35) hx hb (fun n9 h9 => Nat.lt_trans (scL_lt (n := zN σ) _ _ _ _ (by omega) (by intro e h; cases h) n9 h9) (by omega)) dX2_bestGo_28 (by decide) (fun c28_7 => ?_) (fun c28_7 => ?_)
      · skip
        refine lv_aload_n hx hb dX2_bestGo_35 rfl (lv_at hl 1 rfl) ?_
        refine vp_callSi (va_runV (As := []) (rest := []) ⟨hx, hb, hml, hown, hts⟩ (c_X2_nearestForCat l D cZ cI a o o' q nw cg ct mo ea ω ω' σ   (by first | assumption | omega) (by first | assumption | omega) (by first | assumption | omega) (by first | assumption | omega)) (cwV 0 hts gX2_bestGo_X2_nearestForCat rfl rfl rfl (by decide +kernel) ⟨Nat.le_of_ble_eq_true rfl, Nat.le_of_ble_eq_true rfl⟩) ⟨RdP_blind, va_recv hZ.1 hP (ci := 2) (q0 := 0) rfl rfl, RdP_start (hP.sub (ws' := pD cZ cI a o o' q (nw, true, cg, some ct, some mo, ea) ω ω' σ) [0, 1, 2, 3, 4, 5, 6, 7, 8, 9, 10, 11, 12, 13, 14, 15, 16, 17, 18] rfl) hZ⟩ rfl rfl hl.1 rfl (lv_room (Nat.le_of_ble_eq_true rfl)) dX2_bestGo_36 ⟨Nat.le_of_ble_eq_true rfl, Nat.le_of_ble_eq_true rfl⟩).run (fun r_8 hr_9 => ?_)
        subst hr_9
        refine rv_top (show _ = nI (ncF ((oW ω)) σ nw ct mo) from rfl) ?_
        exact W.iret (v := nI (ncF ((oW ω)) σ nw ct mo)) hx hb hr (fun t ht hW => ⟨_, rfl, (show nI (ncF ((oW ω)) σ nw ct mo) = nI (bestF (oW ω) (oT ω) σ nw ct mo) from by rw [bestF, if_pos (by assumption), show scF (oW ω) (oT ω) σ nw ct mo = none by assumption]; rfl), ht⟩) (fun q h => absurd h List.not_mem_nil) dX2_bestGo_39
      · skip
        refine lv_iload_n hx hb dX2_bestGo_31 rfl (lv_at hl 0 rfl) ?_
        refine lv_goto (tgt := 39) hx hb dX2_bestGo_32 (by decide) ?_
        exact W.iret (v := iO (scF ((oW ω)) ((oT ω)) σ nw ct mo)) hx hb hr (fun t ht hW => ⟨_, rfl, (show iO (scF ((oW ω)) ((oT ω)) σ nw ct mo) = nI (bestF (oW ω) (oT ω) σ nw ct mo) from by rw [bestF, if_pos (by assumption)]; exact iO_getD _ (by assumption)), ht⟩) (fun q h => absurd h List.not_mem_nil) dX2_bestGo_39
    · skip
      refine lv_aload_n hx hb dX2_bestGo_16 rfl (lv_at hl 0 rfl) ?_
      refine vp_callSi (va_runV (As := []) (rest := []) ⟨hx, hb, hml, hown, hts⟩ (c_X2_bestForMouse l D cZ cI a o o' q nw cg ct mo ea ω ω' σ   (by first | assumption | omega) (by first | assumption | omega) (by first | assumption | omega) (by first | assumption | omega) (by first | assumption | omega)) (cwV 0 hts gX2_bestGo_X2_bestForMouse rfl rfl rfl (by decide +kernel) ⟨Nat.le_of_ble_eq_true rfl, Nat.le_of_ble_eq_true rfl⟩) ⟨RdP_blind, va_recv hZ.1 hP (ci := 2) (q0 := 0) rfl rfl, RdP_start (hP.sub (ws' := pD cZ cI a o o' q (nw, true, cg, some ct, some mo, ea) ω ω' σ) [0, 1, 2, 3, 4, 5, 6, 7, 8, 9, 10, 11, 12, 13, 14, 15, 16, 17, 18] rfl) hZ⟩ rfl rfl hl.1 rfl (lv_room (Nat.le_of_ble_eq_true rfl)) dX2_bestGo_17 ⟨Nat.le_of_ble_eq_true rfl, Nat.le_of_ble_eq_true rfl⟩).run (fun r_10 hr_11 => ?_)
      subst hr_11
      refine rv_top (show _ = nI (bmF ((oW ω)) ((oT ω)) σ nw ct mo) from rfl) ?_
      exact W.iret (v := nI (bmF ((oW ω)) ((oT ω)) σ nw ct mo)) hx hb hr (fun t ht hW => ⟨_, rfl, (show nI (bmF ((oW ω)) ((oT ω)) σ nw ct mo) = nI (bestF (oW ω) (oT ω) σ nw ct mo) from by rw [bestF, if_neg (nt (by assumption))]), ht⟩) (fun q h => absurd h List.not_mem_nil) dX2_bestGo_20
  · skip
    exact Bool.noConfusion c4_1

set_option maxHeartbeats 4000000 in
set_option maxRecDepth 100000 in
theorem c_X2_turnsOfPair (l : Launch) (D : va_G) (cZ cI : ClassId) (a : Nat) (o : Nat → Nat) (o' : Nat → Nat) (q : Nat → Nat) (κ : CS) (ω : OS) (ω' : OS) (σ : HS)  (pr : Nat) (hσ : zOk σ) (hnw : kn κ < 2 ^ 30) (hpr : pr < 64) : Met l yX2_turnsOfPair wsX2_turnsOfPair ({ frames := 3, cells := 0, slots := 0, locals := 66 }) (RdP D cZ cI [.ref a, .int (nI pr)] (pD cZ cI a o o' q κ ω ω' σ)) (vp_Si (fun r0 => r0 = iO (tPair ω σ (kn κ) pr))) 0 0 (fun _ => False) := by
  refine Met.ofW (cc := cX2_turnsOfPair) (maxL := 4) (ret := (some .int)) (by decide) rfl ?_
  intro p e s m args below meth c s₁ B hml hv
  obtain ⟨rfl, hP, hZ⟩ := hv
  have hx := B.exec
  have hb := B.bytes
  have hr := B.returns
  have hts := atoms_spec (ws := wsX2_turnsOfPair) B.pre
  have hown : s.vm.findClass RX2 = some m.cls := findClass_of_methodNamed B.named
  have hlocks := B.notSynchronized
  have hP : va_P D vwCl (pD cZ cI a o o' q κ ω ω' σ) s.heap := hP
  have hl := lv_entry ([.ref a, .int (nI pr)]) (n := 4) (Nat.le_of_ble_eq_true rfl)
  rw [lg_entry_eq]
  generalize (lg_sl ([.ref a, .int (nI pr)]) ++ List.replicate (4 - (lg_sl ([.ref a, .int (nI pr)])).length) Slot.unset).toArray = ls at hl ⊢
  have hl : lv_has ls 4 [(0, .ref a), (1, .int (nI pr))] := hl
  have hin2 : ∀ w ∈ u_ws RX2 TX2 9, w ∈ wsX2_turnsOfPair := by decide +kernel
  have hin0 : ∀ w ∈ u_ws RX0 TX0 9, w ∈ wsX2_turnsOfPair := by decide +kernel
  have hf10 := hts (.fieldLink RX2 10 "DoorChase" "house" "LDoorChase$House;") (by decide +kernel)
  have hf33 := hts (.fieldLink RX2 33 "DoorChase$House" "roomCount" "I") (by decide +kernel)
  obtain ⟨hσ1, hσ2, hσ3, hσ4, hσ5, hσ6, hσ7⟩ := id hσ
  refine lv_iload_n hx hb dX2_turnsOfPair_0 rfl (lv_at hl 1 rfl) ?_
  refine lv_bipush (v := nI 8) hx hb dX2_turnsOfPair_1 (by decide) ?_
  refine rv_div hx hb (by omega) (by omega) (by omega) dX2_turnsOfPair_3 ?_
  refine lv_istore_n (lv' := [(2, .int (nI (pr / 8))), (0, .ref a), (1, .int (nI pr))]) hx hb dX2_turnsOfPair_4 rfl hl (by decide) rfl (fun ls hl => ?_)
  refine lv_iload_n hx hb dX2_turnsOfPair_5 rfl (lv_at hl 2 rfl) ?_
  refine lv_bipush (v := nI 8) hx hb dX2_turnsOfPair_6 (by decide) ?_
  refine rv_rem hx hb (by omega) (by omega) (by omega) dX2_turnsOfPair_8 ?_
  refine lv_istore_n (lv' := [(3, .int (nI (pr % 8))), (2, .int (nI (pr / 8))), (0, .ref a), (1, .int (nI pr))]) hx hb dX2_turnsOfPair_9 rfl hl (by decide) rfl (fun ls hl => ?_)
  refine lv_iload_n hx hb dX2_turnsOfPair_10 rfl (lv_at hl 1 rfl) ?_
  refine lv_iload_n hx hb dX2_turnsOfPair_11 rfl (lv_at hl 0 rfl) ?_
  refine rv_eq (tgt := 37) hx hb (by omega) (by omega) dX2_turnsOfPair_12 (by decide) (fun c12_1 => ?_) (fun c12_1 => ?_)
  · skip
    refine lv_iconst (v := (-1)) hx hb dX2_turnsOfPair_37 (by decide) ?_
    exact W.iret (v := (-1)) hx hb hr (fun t ht hW => ⟨_, rfl, (show (-1) = iO (tPair ω σ (kn κ) pr) from by unfold tPair; first | (rw [if_pos (by assumption)]; rfl) | (rw [if_neg (by assumption), if_pos (by assumption)]; rfl) | (rw [if_neg (by assumption), if_neg (by simp; assumption), if_pos (by assumption)]; rfl)), ht⟩) (fun q h => absurd h List.not_mem_nil) dX2_turnsOfPair_38
  · skip
    refine lv_iload_n hx hb dX2_turnsOfPair_15 rfl (lv_at hl 1 rfl) ?_
    refine lv_aload_n hx hb dX2_turnsOfPair_16 rfl (lv_at hl 2 rfl) ?_
    refine va_get (D := D) (ci := 2) (v := .ref (q 0)) (C := RX2) (T := TX2) (N := 9) hx hb hts hin2 hown hZ.1 hP 0 rfl rfl 0 (by decide) hf10 (fun _ h9 => h9) rfl dX2_turnsOfPair_17 ?_
    refine va_get (D := D) (ci := 0) (v := .int (nI (zN σ))) (C := RX0) (T := TX0) (N := 9) hx hb hts hin0 hown hZ.1 hP 11 rfl rfl 0 (by decide) hf33 (fun _ h9 => h9) rfl dX2_turnsOfPair_20 ?_
    refine rv_ge (tgt := 37) hx hb (by omega) (by omega) dX2_turnsOfPair_23 (by decide) (fun c23_2 => ?_) (fun c23_2 => ?_)
    · skip
      refine lv_iconst (v := (-1)) hx hb dX2_turnsOfPair_37 (by decide) ?_
      exact W.iret (v := (-1)) hx hb hr (fun t ht hW => ⟨_, rfl, (show (-1) = iO (tPair ω σ (kn κ) pr) from by unfold tPair; first | (rw [if_pos (by assumption)]; rfl) | (rw [if_neg (by assumption), if_pos (by assumption)]; rfl) | (rw [if_neg (by assumption), if_neg (by simp; assumption), if_pos (by assumption)]; rfl)), ht⟩) (fun q h => absurd h List.not_mem_nil) dX2_turnsOfPair_38
    · skip
      refine lv_iload_n hx hb dX2_turnsOfPair_26 rfl (lv_at hl 0 rfl) ?_
      refine lv_aload_n hx hb dX2_turnsOfPair_27 rfl (lv_at hl 2 rfl) ?_
      refine va_get (D := D) (ci := 2) (v := .ref (q 0)) (C := RX2) (T := TX2) (N := 9) hx hb hts hin2 hown hZ.1 hP 0 rfl rfl 0 (by decide) hf10 (fun _ h9 => h9) rfl dX2_turnsOfPair_28 ?_
      refine va_get (D := D) (ci := 0) (v := .int (nI (zN σ))) (C := RX0) (T := TX0) (N := 9) hx hb hts hin0 hown hZ.1 hP 11 rfl rfl 0 (by decide) hf33 (fun _ h9 => h9) rfl dX2_turnsOfPair_31 ?_
      refine rv_lt (tgt := 39) hx hb (by omega) (by omega) dX2_turnsOfPair_34 (by decide) (fun c34_3 => ?_) (fun c34_3 => ?_)
      · skip
        refine lv_aload_n hx hb dX2_turnsOfPair_39 rfl (lv_at hl 2 rfl) ?_
        refine lv_iload_n hx hb dX2_turnsOfPair_40 rfl (lv_at hl 1 rfl) ?_
        refine lv_iload_n hx hb dX2_turnsOfPair_41 rfl (lv_at hl 0 rfl) ?_
        refine vp_callSi (va_runV (As := [.int (nI (pr / 8)), .int (nI (pr % 8))]) (rest := []) ⟨hx, hb, hml, hown, hts⟩ (c_X2_turnsOf l D cZ cI a o o' q κ ω ω' σ  (pr / 8) (pr % 8) (by first | assumption | omega) (by first | assumption | omega) (by first | assumption | omega) (by first | assumption | omega)) (cwV 2 hts gX2_turnsOfPair_X2_turnsOf rfl rfl rfl (by decide +kernel) ⟨Nat.le_of_ble_eq_true rfl, Nat.le_of_ble_eq_true rfl⟩) ⟨RdP_blind, va_recv hZ.1 hP (ci := 2) (q0 := 0) rfl rfl, RdP_start (hP.sub (ws' := pD cZ cI a o o' q κ ω ω' σ) [0, 1, 2, 3, 4, 5, 6, 7, 8, 9, 10, 11, 12, 13, 14, 15, 16, 17, 18] rfl) hZ⟩ rfl rfl hl.1 rfl (lv_room (Nat.le_of_ble_eq_true rfl)) dX2_turnsOfPair_42 ⟨Nat.le_of_ble_eq_true rfl, Nat.le_of_ble_eq_true rfl⟩).run (fun r_4 hr_5 => ?_)
        subst hr_5
        refine rv_top (show _ = iO ((oT ω) (((kn κ) + 0) % 12) (pr / 8) (pr % 8)) from rfl) ?_
        exact W.iret (v := iO ((oT ω) (((kn κ) + 0) % 12) (pr / 8) (pr % 8))) hx hb hr (fun t ht hW => ⟨_, rfl, (show iO ((oT ω) (((kn κ) + 0) % 12) (pr / 8) (pr % 8)) = iO (tPair ω σ (kn κ) pr) from by unfold tPair; rw [if_neg (by assumption), if_neg (by simp; assumption), if_neg (by simp; assumption)]), ht⟩) (fun q h => absurd h List.not_mem_nil) dX2_turnsOfPair_45
      · skip
        refine lv_iconst (v := (-1)) hx hb dX2_turnsOfPair_37 (by decide) ?_
        exact W.iret (v := (-1)) hx hb hr (fun t ht hW => ⟨_, rfl, (show (-1) = iO (tPair ω σ (kn κ) pr) from by unfold tPair; first | (rw [if_pos (by assumption)]; rfl) | (rw [if_neg (by assumption), if_pos (by assumption)]; rfl) | (rw [if_neg (by assumption), if_neg (by simp; assumption), if_pos (by assumption)]; rfl)), ht⟩) (fun q h => absurd h List.not_mem_nil) dX2_turnsOfPair_38

set_option maxHeartbeats 4000000 in
set_option maxRecDepth 100000 in
theorem c_X2_pairsCaught (l : Launch) (D : va_G) (cZ cI : ClassId) (a : Nat) (o : Nat → Nat) (o' : Nat → Nat) (q : Nat → Nat) (κ : CS) (ω : OS) (ω' : OS) (σ : HS)   (hσ : zOk σ) (hnw : kn κ < 2 ^ 30) (hT : tOk ω) : Met l yX2_pairsCaught wsX2_pairsCaught ({ frames := 4, cells := 0, slots := 0, locals := 89 }) (RdP D cZ cI [.ref a] (pD cZ cI a o o' q κ ω ω' σ)) (vp_Si (fun r0 => r0 = nI (pcL ω σ (kn κ) 64 0 0))) 0 0 (fun _ => False) := by
  refine Met.ofW (cc := cX2_pairsCaught) (maxL := 3) (ret := (some .int)) (by decide) rfl ?_
  intro p e s m args below meth c s₁ B hml hv
  obtain ⟨rfl, hP, hZ⟩ := hv
  have hx := B.exec
  have hb := B.bytes
  have hr := B.returns
  have hts := atoms_spec (ws := wsX2_pairsCaught) B.pre
  have hown : s.vm.findClass RX2 = some m.cls := findClass_of_methodNamed B.named
  have hlocks := B.notSynchronized
  have hP : va_P D vwCl (pD cZ cI a o o' q κ ω ω' σ) s.heap := hP
  have hl := lv_entry ([.ref a]) (n := 3) (Nat.le_of_ble_eq_true rfl)
  rw [lg_entry_eq]
  generalize (lg_sl ([.ref a]) ++ List.replicate (3 - (lg_sl ([.ref a])).length) Slot.unset).toArray = ls at hl ⊢
  have hl : lv_has ls 3 [(0, .ref a)] := hl
  obtain ⟨hσ1, hσ2, hσ3, hσ4, hσ5, hσ6, hσ7⟩ := id hσ
  refine lv_iconst (v := nI 0) hx hb dX2_pairsCaught_0 (by decide) ?_
  refine lv_istore_n (lv' := [(1, .int (nI 0)), (0, .ref a)]) hx hb dX2_pairsCaught_1 rfl hl (by decide) rfl (fun ls hl => ?_)
  refine lv_iconst (v := nI 0) hx hb dX2_pairsCaught_2 (by decide) ?_
  refine lv_istore_n (lv' := [(2, .int (nI 0)), (1, .int (nI 0)), (0, .ref a)]) hx hb dX2_pairsCaught_3 rfl hl (by decide) rfl (fun ls hl => ?_)
  have loop4 : ∀ (n : Nat) (pr : Nat) (k : Nat), 64 + 1 ≤ pr + n → (pr ≤ 64) → (pcL ω σ (kn κ) (64 - pr) pr k = pcL ω σ (kn κ) 64 0 0) → ∀ (ls : Array Slot), lv_has ls 3 [(0, .ref a), (1, .int (nI k)), (2, .int (nI pr))] → W p l e (headSpec wsX2_pairsCaught ({ frames := 4, cells := 0, slots := 0, locals := 89 })).room s m ([.ref a] : List Value).toArray below meth c s.heap [] 0 0 (MQ below (vp_Si (fun r0 => r0 = nI (pcL ω σ (kn κ) 64 0 0))) ([.ref a] : List Value).toArray s 0 0 (fun _ => False)) (F0 m 4 ls []) := by
    intro n
    induction n with
    | zero =>
      intro pr k hmeas hpr hE ls hl
      exact absurd hmeas (by omega)
    | succ n ih4 =>
      intro pr k hmeas hpr hE ls hl
      refine lv_iload_n hx hb dX2_pairsCaught_4 rfl (lv_at hl 2 rfl) ?_
      refine lv_bipush (v := nI 64) hx hb dX2_pairsCaught_5 (by decide) ?_
      refine rv_ge (tgt := 28) hx hb (by omega) (by omega) dX2_pairsCaught_7 (by decide) (fun c7_1 => ?_) (fun c7_1 => ?_)
      · skip
        refine lv_iload_n hx hb dX2_pairsCaught_28 rfl (lv_at hl 1 rfl) ?_
        exact W.iret (v := nI k) hx hb hr (fun t ht hW => ⟨_, rfl, (show nI k = nI (pcL ω σ (kn κ) 64 0 0) from by rw [← hE, show 64 - pr = 0 by omega]; rfl), ht⟩) (fun q h => absurd h List.not_mem_nil) dX2_pairsCaught_29
      · skip
        refine lv_aload_n hx hb dX2_pairsCaught_10 rfl (lv_at hl 0 rfl) ?_
        refine lv_iload_n hx hb dX2_pairsCaught_11 rfl (lv_at hl 2 rfl) ?_
        refine vp_callSi (va_runV (As := [.int (nI pr)]) (rest := []) ⟨hx, hb, hml, hown, hts⟩ (c_X2_turnsOfPair l D cZ cI a o o' q κ ω ω' σ  pr (by first | assumption | omega) (by first | assumption | omega) (by first | assumption | omega)) (cwV 1 hts gX2_pairsCaught_X2_turnsOfPair rfl rfl rfl (by decide +kernel) ⟨Nat.le_of_ble_eq_true rfl, Nat.le_of_ble_eq_true rfl⟩) ⟨RdP_blind, va_recv hZ.1 hP (ci := 2) (q0 := 0) rfl rfl, RdP_start (hP.sub (ws' := pD cZ cI a o o' q κ ω ω' σ) [0, 1, 2, 3, 4, 5, 6, 7, 8, 9, 10, 11, 12, 13, 14, 15, 16, 17, 18] rfl) hZ⟩ rfl rfl hl.1 rfl (lv_room (Nat.le_of_ble_eq_true rfl)) dX2_pairsCaught_12 ⟨Nat.le_of_ble_eq_true rfl, Nat.le_of_ble_eq_true rfl⟩).run (fun r_2 hr_3 => ?_)
        subst hr_3
        refine rv_top (show _ = iO (tPair ω σ ((kn κ)) pr) from rfl) ?_
        refine lv_iconst (v := (-1)) hx hb dX2_pairsCaught_15 (by decide) ?_
        refine rv_eqO (tgt := 22) hx hb (fun n9 h9 => Nat.lt_of_le_of_lt (tPair_le hσ hT _ _ n9 h9) (by decide)) dX2_pairsCaught_16 (by decide) (fun c16_4 => ?_) (fun c16_4 => ?_)
        · skip
          refine lv_iinc (v := nI (pr + 1)) (lv' := [(2, .int (nI (pr + 1))), (0, .ref a), (1, .int (nI k))]) hx hb dX2_pairsCaught_22 hl (k := 2) rfl (nI_add pr 1) (by decide) rfl (fun ls hl => ?_)
          refine lv_goto (tgt := 4) hx hb dX2_pairsCaught_25 (by decide) ?_
          exact ih4 (pr + 1) k (by omega) (by omega) (by rw [← hE, show 64 - pr = (64 - (pr + 1)) + 1 by omega, pcL]; first | rw [if_pos (by assumption)] | rw [if_neg (by assumption)]) ls (lv_sub hl [1, 2, 0] rfl)
        · skip
          refine lv_iinc (v := nI (k + 1)) (lv' := [(1, .int (nI (k + 1))), (0, .ref a), (2, .int (nI pr))]) hx hb dX2_pairsCaught_19 hl (k := 1) rfl (nI_add k 1) (by decide) rfl (fun ls hl => ?_)
          refine lv_iinc (v := nI (pr + 1)) (lv' := [(2, .int (nI (pr + 1))), (1, .int (nI (k + 1))), (0, .ref a)]) hx hb dX2_pairsCaught_22 hl (k := 2) rfl (nI_add pr 1) (by decide) rfl (fun ls hl => ?_)
          refine lv_goto (tgt := 4) hx hb dX2_pairsCaught_25 (by decide) ?_
          exact ih4 (pr + 1) (k + 1) (by omega) (by omega) (by rw [← hE, show 64 - pr = (64 - (pr + 1)) + 1 by omega, pcL]; first | rw [if_pos (by assumption)] | rw [if_neg (by assumption)]) ls (lv_sub hl [2, 1, 0] rfl)
  exact loop4 (64 + 1) 0 0 (by omega) (by omega) rfl ls (lv_sub hl [2, 1, 0] rfl)

set_option maxHeartbeats 4000000 in
set_option maxRecDepth 100000 in
theorem c_X2_longestChase (l : Launch) (D : va_G) (cZ cI : ClassId) (a : Nat) (o : Nat → Nat) (o' : Nat → Nat) (q : Nat → Nat) (κ : CS) (ω : OS) (ω' : OS) (σ : HS)   (hσ : zOk σ) (hnw : kn κ < 2 ^ 30) (hT : tOk ω) : Met l yX2_longestChase wsX2_longestChase ({ frames := 4, cells := 0, slots := 0, locals := 89 }) (RdP D cZ cI [.ref a] (pD cZ cI a o o' q κ ω ω' σ)) (vp_Si (fun r0 => r0 = iO (lcL ω σ (kn κ) 64 0 none))) 0 0 (fun _ => False) := by
  refine Met.ofW (cc := cX2_longestChase) (maxL := 3) (ret := (some .int)) (by decide) rfl ?_
  intro p e s m args below meth c s₁ B hml hv
  obtain ⟨rfl, hP, hZ⟩ := hv
  have hx := B.exec
  have hb := B.bytes
  have hr := B.returns
  have hts := atoms_spec (ws := wsX2_longestChase) B.pre
  have hown : s.vm.findClass RX2 = some m.cls := findClass_of_methodNamed B.named
  have hlocks := B.notSynchronized
  have hP : va_P D vwCl (pD cZ cI a o o' q κ ω ω' σ) s.heap := hP
  have hl := lv_entry ([.ref a]) (n := 3) (Nat.le_of_ble_eq_true rfl)
  rw [lg_entry_eq]
  generalize (lg_sl ([.ref a]) ++ List.replicate (3 - (lg_sl ([.ref a])).length) Slot.unset).toArray = ls at hl ⊢
  have hl : lv_has ls 3 [(0, .ref a)] := hl
  obtain ⟨hσ1, hσ2, hσ3, hσ4, hσ5, hσ6, hσ7⟩ := id hσ
  refine lv_iconst (v := (-1)) hx hb dX2_longestChase_0 (by decide) ?_
  refine rv_top (show (-1) = iO none from rfl) ?_
  refine lv_istore_n (lv' := [(1, .int (iO none)), (0, .ref a)]) hx hb dX2_longestChase_1 rfl hl (by decide) rfl (fun ls hl => ?_)
  refine lv_iconst (v := nI 0) hx hb dX2_longestChase_2 (by decide) ?_
  refine lv_istore_n (lv' := [(2, .int (nI 0)), (1, .int (iO none)), (0, .ref a)]) hx hb dX2_longestChase_3 rfl hl (by decide) rfl (fun ls hl => ?_)
  have loop4 : ∀ (n : Nat) (pr : Nat) (o9 : Option Nat), 64 + 1 ≤ pr + n → (pr ≤ 64) → (∀ n, o9 = some n → n ≤ 768) → (lcL ω σ (kn κ) (64 - pr) pr o9 = lcL ω σ (kn κ) 64 0 none) → ∀ (ls : Array Slot), lv_has ls 3 [(0, .ref a), (1, .int (iO o9)), (2, .int (nI pr))] → W p l e (headSpec wsX2_longestChase ({ frames := 4, cells := 0, slots := 0, locals := 89 })).room s m ([.ref a] : List Value).toArray below meth c s.heap [] 0 0 (MQ below (vp_Si (fun r0 => r0 = iO (lcL ω σ (kn κ) 64 0 none))) ([.ref a] : List Value).toArray s 0 0 (fun _ => False)) (F0 m 4 ls []) := by
    intro n
    induction n with
    | zero =>
      intro pr o9 hmeas hpr ho9 hE ls hl
      exact absurd hmeas (by omega)
    | succ n ih4 =>
      intro pr o9 hmeas hpr ho9 hE ls hl
      refine lv_iload_n hx hb dX2_longestChase_4 rfl (lv_at hl 2 rfl) ?_
      refine lv_bipush (v := nI 64) hx hb dX2_longestChase_5 (by decide) ?_
      refine rv_ge (tgt := 26) hx hb (by omega) (by omega) dX2_longestChase_7 (by decide) (fun c7_1 => ?_) (fun c7_1 => ?_)
      · skip
        refine lv_iload_n hx hb dX2_longestChase_26 rfl (lv_at hl 1 rfl) ?_
        exact W.iret (v := iO o9) hx hb hr (fun t ht hW => ⟨_, rfl, (show iO o9 = iO (lcL ω σ (kn κ) 64 0 none) from by rw [← hE, show 64 - pr = 0 by omega]; rfl), ht⟩) (fun q h => absurd h List.not_mem_nil) dX2_longestChase_27
      · skip
        refine lv_iload_n hx hb dX2_longestChase_10 rfl (lv_at hl 1 rfl) ?_
        refine lv_aload_n hx hb dX2_longestChase_11 rfl (lv_at hl 0 rfl) ?_
        refine lv_iload_n hx hb dX2_longestChase_12 rfl (lv_at hl 2 rfl) ?_
        refine vp_callSi (va_runV (As := [.int (nI pr)]) (rest := [.int (iO o9)]) ⟨hx, hb, hml, hown, hts⟩ (c_X2_turnsOfPair l D cZ cI a o o' q κ ω ω' σ  pr (by first | assumption | omega) (by first | assumption | omega) (by first | assumption | omega)) (cwV 1 hts gX2_longestChase_X2_turnsOfPair rfl rfl rfl (by decide +kernel) ⟨Nat.le_of_ble_eq_true rfl, Nat.le_of_ble_eq_true rfl⟩) ⟨RdP_blind, va_recv hZ.1 hP (ci := 2) (q0 := 0) rfl rfl, RdP_start (hP.sub (ws' := pD cZ cI a o o' q κ ω ω' σ) [0, 1, 2, 3, 4, 5, 6, 7, 8, 9, 10, 11, 12, 13, 14, 15, 16, 17, 18] rfl) hZ⟩ rfl rfl hl.1 rfl (lv_room (Nat.le_of_ble_eq_true rfl)) dX2_longestChase_13 ⟨Nat.le_of_ble_eq_true rfl, Nat.le_of_ble_eq_true rfl⟩).run (fun r_2 hr_3 => ?_)
        subst hr_3
        refine rv_top (show _ = iO (tPair ω σ ((kn κ)) pr) from rfl) ?_
        refine va_mmax hx hb (hml.trans hl.1.symm) hown (hts (.methodLink RX2 178 Lib.Math.max.name) (by decide +kernel)) (hts (.static Lib.Math.max.name) (by decide +kernel)) (hts (.initialized "java/lang/Math") (by decide +kernel)) (hts (.code Lib.Math.max.name Lib.Math.max.code 2 (some .int)) (by decide +kernel)) (Nat.le_of_ble_eq_true rfl) (Nat.le_of_ble_eq_true rfl) (Nat.zero_le _) (Nat.zero_le _) dX2_longestChase_16 ?_
        refine rv_top (iO_max (fun n9 h9 => Nat.lt_of_le_of_lt (ho9 n9 h9) (by decide)) (fun n9 h9 => Nat.lt_of_le_of_lt (tPair_le hσ hT _ _ n9 h9) (by decide))) ?_
        refine lv_istore_n (lv' := [(1, .int (iO (omax o9 (tPair ω σ ((kn κ)) pr)))), (0, .ref a), (2, .int (nI pr))]) hx hb dX2_longestChase_19 rfl hl (by decide) rfl (fun ls hl => ?_)
        refine lv_iinc (v := nI (pr + 1)) (lv' := [(2, .int (nI (pr + 1))), (1, .int (iO (omax o9 (tPair ω σ ((kn κ)) pr)))), (0, .ref a)]) hx hb dX2_longestChase_20 hl (k := 2) rfl (nI_add pr 1) (by decide) rfl (fun ls hl => ?_)
        refine lv_goto (tgt := 4) hx hb dX2_longestChase_23 (by decide) ?_
        exact ih4 (pr + 1) (omax o9 (tPair ω σ ((kn κ)) pr)) (by omega) (by omega) (fun n9 h9 => Nat.le_of_lt_succ (omax_lt (k := 769) (fun n h => Nat.lt_succ_of_le (ho9 n h)) (fun n h => Nat.lt_succ_of_le (tPair_le hσ hT _ _ n h)) n9 h9)) (by rw [← hE, show 64 - pr = (64 - (pr + 1)) + 1 by omega, lcL]) ls (lv_sub hl [2, 1, 0] rfl)
  exact loop4 (64 + 1) 0 none (by omega) (by omega) (fun n h => by cases h) rfl ls (lv_sub hl [2, 1, 0] rfl)

set_option maxHeartbeats 4000000 in
set_option maxRecDepth 100000 in
theorem c_X2_joined (l : Launch) (D : va_G) (cZ cI : ClassId)   (d : Int64) (x : Int64)  : Met l yX2_joined wsX2_joined ({ frames := 0, cells := 0, slots := 0, locals := 0 }) (RdP D cZ cI [.long d, .long x] ([])) (vp_Sl (fun r0 => r0 = d * 31 + x)) 0 0 (fun _ => False) := by
  refine Met.ofW (cc := cX2_joined) (maxL := 4) (ret := (some .long)) (by decide) rfl ?_
  intro p e s m args below meth c s₁ B hml hv
  obtain ⟨rfl, hP, hZ⟩ := hv
  have hx := B.exec
  have hb := B.bytes
  have hr := B.returns
  have hts := atoms_spec (ws := wsX2_joined) B.pre
  have hown : s.vm.findClass RX2 = some m.cls := findClass_of_methodNamed B.named
  have hlocks := B.notSynchronized
  have hP : va_P D vwCl ([]) s.heap := hP
  have hl := lv_entry ([.long d, .long x]) (n := 4) (Nat.le_of_ble_eq_true rfl)
  rw [lg_entry_eq]
  generalize (lg_sl ([.long d, .long x]) ++ List.replicate (4 - (lg_sl ([.long d, .long x])).length) Slot.unset).toArray = ls at hl ⊢
  have hl : lv_has ls 4 [(0, .long d), (2, .long x)] := hl
  refine lv_lload_n hx hb dX2_joined_0 rfl (lv_at hl 0 rfl) ?_
  refine lv_ldc2 (v := 31) hx hb hown (hts (.constantLong RX2 260 31) (by decide +kernel)) dX2_joined_1 ?_
  refine lv_lmul hx hb dX2_joined_4 ?_
  refine lv_lload_n hx hb dX2_joined_5 rfl (lv_at hl 1 rfl) ?_
  refine lv_ladd hx hb dX2_joined_6 ?_
  exact W.lret (v := (d * 31) + x) hx hb hr (fun t ht hW => ⟨_, rfl, rfl, ht⟩) (fun q h => absurd h List.not_mem_nil) dX2_joined_7

set_option maxHeartbeats 4000000 in
set_option maxRecDepth 100000 in
theorem c_X2_asNumber (l : Launch) (D : va_G) (cZ cI : ClassId)   (b : Bool)  : Met l yX2_asNumber wsX2_asNumber ({ frames := 0, cells := 0, slots := 0, locals := 0 }) (RdP D cZ cI [.int (bI b)] ([])) (vp_Sl (fun r0 => r0 = aN b)) 0 0 (fun _ => False) := by
  refine Met.ofW (cc := cX2_asNumber) (maxL := 1) (ret := (some .long)) (by decide) rfl ?_
  intro p e s m args below meth c s₁ B hml hv
  obtain ⟨rfl, hP, hZ⟩ := hv
  have hx := B.exec
  have hb := B.bytes
  have hr := B.returns
  have hts := atoms_spec (ws := wsX2_asNumber) B.pre
  have hown : s.vm.findClass RX2 = some m.cls := findClass_of_methodNamed B.named
  have hlocks := B.notSynchronized
  have hP : va_P D vwCl ([]) s.heap := hP
  have hl := lv_entry ([.int (bI b)]) (n := 1) (Nat.le_of_ble_eq_true rfl)
  rw [lg_entry_eq]
  generalize (lg_sl ([.int (bI b)]) ++ List.replicate (1 - (lg_sl ([.int (bI b)])).length) Slot.unset).toArray = ls at hl ⊢
  have hl : lv_has ls 1 [(0, .int (bI b))] := hl
  refine lv_iload_n hx hb dX2_asNumber_0 rfl (lv_at hl 0 rfl) ?_
  refine rv_ifeqB (tgt := 8) hx hb dX2_asNumber_1 (by decide) (fun c1_1 => ?_) (fun c1_1 => ?_)
  · skip
    refine lv_lconst (v := 0) hx hb dX2_asNumber_8 rfl ?_
    exact W.lret (v := 0) hx hb hr (fun t ht hW => ⟨_, rfl, (show (0 : Int64) = aN b from by rw [c1_1]; rfl), ht⟩) (fun q h => absurd h List.not_mem_nil) dX2_asNumber_9
  · skip
    refine lv_lconst (v := 1) hx hb dX2_asNumber_4 rfl ?_
    refine lv_goto (tgt := 9) hx hb dX2_asNumber_5 (by decide) ?_
    exact W.lret (v := 1) hx hb hr (fun t ht hW => ⟨_, rfl, (show (1 : Int64) = aN b from by rw [c1_1]; rfl), ht⟩) (fun q h => absurd h List.not_mem_nil) dX2_asNumber_9

set_option maxHeartbeats 4000000 in
set_option maxRecDepth 100000 in
theorem c_X2_joinedRooms (l : Launch) (D : va_G) (cZ cI : ClassId) (a : Nat) (o : Nat → Nat) (o' : Nat → Nat) (q : Nat → Nat) (κ : CS) (ω : OS) (ω' : OS) (σ : HS)  (d0 : Int64) (hσ : zOk σ) : Met l yX2_joinedRooms wsX2_joinedRooms ({ frames := 4, cells := 0, slots := 0, locals := 90 }) (RdP D cZ cI [.ref a, .long d0] (pD cZ cI a o o' q κ ω ω' σ)) (vp_Sl (fun r0 => r0 = jrL σ (zN σ) 0 d0)) 0 0 (fun _ => False) := by
  refine Met.ofW (cc := cX2_joinedRooms) (maxL := 6) (ret := (some .long)) (by decide) rfl ?_
  intro p e s m args below meth c s₁ B hml hv
  obtain ⟨rfl, hP, hZ⟩ := hv
  have hx := B.exec
  have hb := B.bytes
  have hr := B.returns
  have hts := atoms_spec (ws := wsX2_joinedRooms) B.pre
  have hown : s.vm.findClass RX2 = some m.cls := findClass_of_methodNamed B.named
  have hlocks := B.notSynchronized
  have hP : va_P D vwCl (pD cZ cI a o o' q κ ω ω' σ) s.heap := hP
  have hl := lv_entry ([.ref a, .long d0]) (n := 6) (Nat.le_of_ble_eq_true rfl)
  rw [lg_entry_eq]
  generalize (lg_sl ([.ref a, .long d0]) ++ List.replicate (6 - (lg_sl ([.ref a, .long d0])).length) Slot.unset).toArray = ls at hl ⊢
  have hl : lv_has ls 6 [(0, .ref a), (1, .long d0)] := hl
  have hin2 : ∀ w ∈ u_ws RX2 TX2 9, w ∈ wsX2_joinedRooms := by decide +kernel
  have hin0 : ∀ w ∈ u_ws RX0 TX0 9, w ∈ wsX2_joinedRooms := by decide +kernel
  have hf10 := hts (.fieldLink RX2 10 "DoorChase" "house" "LDoorChase$House;") (by decide +kernel)
  have hf33 := hts (.fieldLink RX2 33 "DoorChase$House" "roomCount" "I") (by decide +kernel)
  obtain ⟨hσ1, hσ2, hσ3, hσ4, hσ5, hσ6, hσ7⟩ := id hσ
  refine lv_lload_n hx hb dX2_joinedRooms_0 rfl (lv_at hl 1 rfl) ?_
  refine lv_lstore_n (lv' := [(3, .long d0), (0, .ref a), (1, .long d0)]) hx hb dX2_joinedRooms_1 rfl hl (by decide) rfl (fun ls hl => ?_)
  refine lv_iconst (v := nI 0) hx hb dX2_joinedRooms_2 (by decide) ?_
  refine lv_istore (lv' := [(5, .int (nI 0)), (3, .long d0), (0, .ref a), (1, .long d0)]) hx hb dX2_joinedRooms_3 hl (by decide) rfl (fun ls hl => ?_)
  have loop5 : ∀ (n : Nat) (r : Nat) (d : Int64), zN σ + 1 ≤ r + n → (r ≤ zN σ) → (jrL σ (zN σ - r) r d = jrL σ (zN σ) 0 d0) → ∀ (ls : Array Slot), lv_has ls 6 [(0, .ref a), (3, .long d), (5, .int (nI r))] → W p l e (headSpec wsX2_joinedRooms ({ frames := 4, cells := 0, slots := 0, locals := 90 })).room s m ([.ref a, .long d0] : List Value).toArray below meth c s.heap [] 0 0 (MQ below (vp_Sl (fun r0 => r0 = jrL σ (zN σ) 0 d0)) ([.ref a, .long d0] : List Value).toArray s 0 0 (fun _ => False)) (F0 m 5 ls []) := by
    intro n
    induction n with
    | zero =>
      intro r d hmeas hr8 hE ls hl
      exact absurd hmeas (by omega)
    | succ n ih5 =>
      intro r d hmeas hr8 hE ls hl
      refine lv_iload hx hb dX2_joinedRooms_5 (lv_at hl 2 rfl) ?_
      refine lv_aload_n hx hb dX2_joinedRooms_7 rfl (lv_at hl 0 rfl) ?_
      refine va_get (D := D) (ci := 2) (v := .ref (q 0)) (C := RX2) (T := TX2) (N := 9) hx hb hts hin2 hown hZ.1 hP 0 rfl rfl 0 (by decide) hf10 (fun _ h9 => h9) rfl dX2_joinedRooms_8 ?_
      refine va_get (D := D) (ci := 0) (v := .int (nI (zN σ))) (C := RX0) (T := TX0) (N := 9) hx hb hts hin0 hown hZ.1 hP 11 rfl rfl 0 (by decide) hf33 (fun _ h9 => h9) rfl dX2_joinedRooms_11 ?_
      refine rv_ge (tgt := 74) hx hb (by omega) (by omega) dX2_joinedRooms_14 (by decide) (fun c14_1 => ?_) (fun c14_1 => ?_)
      · skip
        refine lv_lload_n hx hb dX2_joinedRooms_74 rfl (lv_at hl 1 rfl) ?_
        exact W.lret (v := d) hx hb hr (fun t ht hW => ⟨_, rfl, (show d = jrL σ (zN σ) 0 d0 from by rw [← hE, show zN σ - r = 0 by omega]; rfl), ht⟩) (fun q h => absurd h List.not_mem_nil) dX2_joinedRooms_75
      · skip
        refine lv_lload_n hx hb dX2_joinedRooms_17 rfl (lv_at hl 1 rfl) ?_
        refine lv_aload_n hx hb dX2_joinedRooms_18 rfl (lv_at hl 0 rfl) ?_
        refine lv_iload hx hb dX2_joinedRooms_19 (lv_at hl 2 rfl) ?_
        refine vp_callSi (va_runV (As := [.int (nI r)]) (rest := [.long d]) ⟨hx, hb, hml, hown, hts⟩ (c_X2_isSafe l D cZ cI a o o' q κ ω ω' σ  r (by first | assumption | omega) (by first | assumption | omega)) (cwV 1 hts gX2_joinedRooms_X2_isSafe rfl rfl rfl (by decide +kernel) ⟨Nat.le_of_ble_eq_true rfl, Nat.le_of_ble_eq_true rfl⟩) ⟨RdP_blind, va_recv hZ.1 hP (ci := 2) (q0 := 0) rfl rfl, RdP_start (hP.sub (ws' := pD cZ cI a o o' q κ ω ω' σ) [0, 1, 2, 3, 4, 5, 6, 7, 8, 9, 10, 11, 12, 13, 14, 15, 16, 17, 18] rfl) hZ⟩ rfl rfl hl.1 rfl (lv_room (Nat.le_of_ble_eq_true rfl)) dX2_joinedRooms_21 ⟨Nat.le_of_ble_eq_true rfl, Nat.le_of_ble_eq_true rfl⟩).run (fun r_2 hr_3 => ?_)
        subst hr_3
        refine rv_top (show _ = bI ((zS σ) r) from rfl) ?_
        refine vp_callSl (va_runS (As := [.int (bI ((zS σ) r))]) (rest := [.long d]) ⟨hx, hb, hml, hown, hts⟩ (c_X2_asNumber l D cZ cI   ((zS σ) r) ) (va_cwS 1 hts gX2_joinedRooms_X2_asNumber rfl rfl rfl (by decide +kernel) ⟨Nat.le_of_ble_eq_true rfl, Nat.le_of_ble_eq_true rfl⟩) ⟨RdP_blind, RdP_start (hP.sub (ws' := []) [] rfl) hZ⟩ rfl rfl hl.1 rfl (lv_room (Nat.le_of_ble_eq_true rfl)) dX2_joinedRooms_24 ⟨Nat.le_of_ble_eq_true rfl, Nat.le_of_ble_eq_true rfl⟩).run (fun r_4 hr_5 => ?_)
        subst hr_5
        refine vp_callSl (va_runS (As := [.long d, .long (aN ((zS σ) r))]) (rest := []) ⟨hx, hb, hml, hown, hts⟩ (c_X2_joined l D cZ cI   d (aN ((zS σ) r)) ) (va_cwS 2 hts gX2_joinedRooms_X2_joined rfl rfl rfl (by decide +kernel) ⟨Nat.le_of_ble_eq_true rfl, Nat.le_of_ble_eq_true rfl⟩) ⟨RdP_blind, RdP_start (hP.sub (ws' := []) [] rfl) hZ⟩ rfl rfl hl.1 rfl (lv_room (Nat.le_of_ble_eq_true rfl)) dX2_joinedRooms_27 ⟨Nat.le_of_ble_eq_true rfl, Nat.le_of_ble_eq_true rfl⟩).run (fun r_6 hr_7 => ?_)
        subst hr_7
        refine lv_lstore_n (lv' := [(3, .long (d * 31 + (aN ((zS σ) r)))), (0, .ref a), (5, .int (nI r))]) hx hb dX2_joinedRooms_30 rfl hl (by decide) rfl (fun ls hl => ?_)
        refine lv_lload_n hx hb dX2_joinedRooms_31 rfl (lv_at hl 0 rfl) ?_
        refine lv_aload_n hx hb dX2_joinedRooms_32 rfl (lv_at hl 1 rfl) ?_
        refine lv_iload hx hb dX2_joinedRooms_33 (lv_at hl 2 rfl) ?_
        refine vp_callSi (va_runV (As := [.int (nI r)]) (rest := [.long (d * 31 + (aN ((zS σ) r)))]) ⟨hx, hb, hml, hown, hts⟩ (c_X2_cheeseIn l D cZ cI a o o' q κ ω ω' σ  r (by first | assumption | omega) (by first | assumption | omega)) (cwV 1 hts gX2_joinedRooms_X2_cheeseIn rfl rfl rfl (by decide +kernel) ⟨Nat.le_of_ble_eq_true rfl, Nat.le_of_ble_eq_true rfl⟩) ⟨RdP_blind, va_recv hZ.1 hP (ci := 2) (q0 := 0) rfl rfl, RdP_start (hP.sub (ws' := pD cZ cI a o o' q κ ω ω' σ) [0, 1, 2, 3, 4, 5, 6, 7, 8, 9, 10, 11, 12, 13, 14, 15, 16, 17, 18] rfl) hZ⟩ rfl rfl hl.1 rfl (lv_room (Nat.le_of_ble_eq_true rfl)) dX2_joinedRooms_35 ⟨Nat.le_of_ble_eq_true rfl, Nat.le_of_ble_eq_true rfl⟩).run (fun r_8 hr_9 => ?_)
        subst hr_9
        refine rv_top (show _ = nI ((zC σ) r) from rfl) ?_
        refine lv_i2l (v := (nI ((zC σ) r)).toInt64) hx hb dX2_joinedRooms_38 rfl ?_
        refine vp_callSl (va_runS (As := [.long (d * 31 + (aN ((zS σ) r))), .long ((nI ((zC σ) r)).toInt64)]) (rest := []) ⟨hx, hb, hml, hown, hts⟩ (c_X2_joined l D cZ cI   (d * 31 + (aN ((zS σ) r))) ((nI ((zC σ) r)).toInt64) ) (va_cwS 2 hts gX2_joinedRooms_X2_joined rfl rfl rfl (by decide +kernel) ⟨Nat.le_of_ble_eq_true rfl, Nat.le_of_ble_eq_true rfl⟩) ⟨RdP_blind, RdP_start (hP.sub (ws' := []) [] rfl) hZ⟩ rfl rfl hl.1 rfl (lv_room (Nat.le_of_ble_eq_true rfl)) dX2_joinedRooms_39 ⟨Nat.le_of_ble_eq_true rfl, Nat.le_of_ble_eq_true rfl⟩).run (fun r_10 hr_11 => ?_)
        subst hr_11
        refine lv_lstore_n (lv' := [(3, .long ((d * 31 + (aN ((zS σ) r))) * 31 + ((nI ((zC σ) r)).toInt64))), (0, .ref a), (5, .int (nI r))]) hx hb dX2_joinedRooms_42 rfl hl (by decide) rfl (fun ls hl => ?_)
        refine lv_lload_n hx hb dX2_joinedRooms_43 rfl (lv_at hl 0 rfl) ?_
        refine lv_aload_n hx hb dX2_joinedRooms_44 rfl (lv_at hl 1 rfl) ?_
        refine lv_iload hx hb dX2_joinedRooms_45 (lv_at hl 2 rfl) ?_
        refine vp_callSi (va_runV (As := [.int (nI r)]) (rest := [.long ((d * 31 + (aN ((zS σ) r))) * 31 + ((nI ((zC σ) r)).toInt64))]) ⟨hx, hb, hml, hown, hts⟩ (c_X2_doorsOf l D cZ cI a o o' q κ ω ω' σ  r (by first | assumption | omega) (by first | assumption | omega)) (cwV 1 hts gX2_joinedRooms_X2_doorsOf rfl rfl rfl (by decide +kernel) ⟨Nat.le_of_ble_eq_true rfl, Nat.le_of_ble_eq_true rfl⟩) ⟨RdP_blind, va_recv hZ.1 hP (ci := 2) (q0 := 0) rfl rfl, RdP_start (hP.sub (ws' := pD cZ cI a o o' q κ ω ω' σ) [0, 1, 2, 3, 4, 5, 6, 7, 8, 9, 10, 11, 12, 13, 14, 15, 16, 17, 18] rfl) hZ⟩ rfl rfl hl.1 rfl (lv_room (Nat.le_of_ble_eq_true rfl)) dX2_joinedRooms_47 ⟨Nat.le_of_ble_eq_true rfl, Nat.le_of_ble_eq_true rfl⟩).run (fun r_12 hr_13 => ?_)
        subst hr_13
        refine rv_top (show _ = nI (hDoors σ r) from rfl) ?_
        refine lv_i2l (v := (nI (hDoors σ r)).toInt64) hx hb dX2_joinedRooms_50 rfl ?_
        refine vp_callSl (va_runS (As := [.long ((d * 31 + (aN ((zS σ) r))) * 31 + ((nI ((zC σ) r)).toInt64)), .long ((nI (hDoors σ r)).toInt64)]) (rest := []) ⟨hx, hb, hml, hown, hts⟩ (c_X2_joined l D cZ cI   ((d * 31 + (aN ((zS σ) r))) * 31 + ((nI ((zC σ) r)).toInt64)) ((nI (hDoors σ r)).toInt64) ) (va_cwS 2 hts gX2_joinedRooms_X2_joined rfl rfl rfl (by decide +kernel) ⟨Nat.le_of_ble_eq_true rfl, Nat.le_of_ble_eq_true rfl⟩) ⟨RdP_blind, RdP_start (hP.sub (ws' := []) [] rfl) hZ⟩ rfl rfl hl.1 rfl (lv_room (Nat.le_of_ble_eq_true rfl)) dX2_joinedRooms_51 ⟨Nat.le_of_ble_eq_true rfl, Nat.le_of_ble_eq_true rfl⟩).run (fun r_14 hr_15 => ?_)
        subst hr_15
        refine lv_lstore_n (lv' := [(3, .long (((d * 31 + (aN ((zS σ) r))) * 31 + ((nI ((zC σ) r)).toInt64)) * 31 + ((nI (hDoors σ r)).toInt64))), (0, .ref a), (5, .int (nI r))]) hx hb dX2_joinedRooms_54 rfl hl (by decide) rfl (fun ls hl => ?_)
        refine lv_lload_n hx hb dX2_joinedRooms_55 rfl (lv_at hl 0 rfl) ?_
        refine lv_aload_n hx hb dX2_joinedRooms_56 rfl (lv_at hl 1 rfl) ?_
        refine lv_iconst (v := nI 0) hx hb dX2_joinedRooms_57 (by decide) ?_
        refine lv_iload hx hb dX2_joinedRooms_58 (lv_at hl 2 rfl) ?_
        refine vp_callSi (va_runV (As := [.int (nI 0), .int (nI r)]) (rest := [.long (((d * 31 + (aN ((zS σ) r))) * 31 + ((nI ((zC σ) r)).toInt64)) * 31 + ((nI (hDoors σ r)).toInt64))]) ⟨hx, hb, hml, hown, hts⟩ (c_X2_distance l D cZ cI a o o' q κ ω ω' σ  0 r (by first | assumption | omega) (by first | assumption | omega) (by first | assumption | omega)) (cwV 2 hts gX2_joinedRooms_X2_distance rfl rfl rfl (by decide +kernel) ⟨Nat.le_of_ble_eq_true rfl, Nat.le_of_ble_eq_true rfl⟩) ⟨RdP_blind, va_recv hZ.1 hP (ci := 2) (q0 := 0) rfl rfl, RdP_start (hP.sub (ws' := pD cZ cI a o o' q κ ω ω' σ) [0, 1, 2, 3, 4, 5, 6, 7, 8, 9, 10, 11, 12, 13, 14, 15, 16, 17, 18] rfl) hZ⟩ rfl rfl hl.1 rfl (lv_room (Nat.le_of_ble_eq_true rfl)) dX2_joinedRooms_60 ⟨Nat.le_of_ble_eq_true rfl, Nat.le_of_ble_eq_true rfl⟩).run (fun r_16 hr_17 => ?_)
        subst hr_17
        refine rv_top (show _ = iO (hAway σ 0 r) from rfl) ?_
        refine lv_i2l (v := oN (hAway σ 0 r)) hx hb dX2_joinedRooms_63 rfl ?_
        refine vp_callSl (va_runS (As := [.long (((d * 31 + (aN ((zS σ) r))) * 31 + ((nI ((zC σ) r)).toInt64)) * 31 + ((nI (hDoors σ r)).toInt64)), .long (oN (hAway σ 0 r))]) (rest := []) ⟨hx, hb, hml, hown, hts⟩ (c_X2_joined l D cZ cI   (((d * 31 + (aN ((zS σ) r))) * 31 + ((nI ((zC σ) r)).toInt64)) * 31 + ((nI (hDoors σ r)).toInt64)) (oN (hAway σ 0 r)) ) (va_cwS 2 hts gX2_joinedRooms_X2_joined rfl rfl rfl (by decide +kernel) ⟨Nat.le_of_ble_eq_true rfl, Nat.le_of_ble_eq_true rfl⟩) ⟨RdP_blind, RdP_start (hP.sub (ws' := []) [] rfl) hZ⟩ rfl rfl hl.1 rfl (lv_room (Nat.le_of_ble_eq_true rfl)) dX2_joinedRooms_64 ⟨Nat.le_of_ble_eq_true rfl, Nat.le_of_ble_eq_true rfl⟩).run (fun r_18 hr_19 => ?_)
        subst hr_19
        refine lv_lstore_n (lv' := [(3, .long ((((d * 31 + (aN ((zS σ) r))) * 31 + ((nI ((zC σ) r)).toInt64)) * 31 + ((nI (hDoors σ r)).toInt64)) * 31 + (oN (hAway σ 0 r)))), (0, .ref a), (5, .int (nI r))]) hx hb dX2_joinedRooms_67 rfl hl (by decide) rfl (fun ls hl => ?_)
        refine lv_iinc (v := nI (r + 1)) (lv' := [(5, .int (nI (r + 1))), (3, .long ((((d * 31 + (aN ((zS σ) r))) * 31 + ((nI ((zC σ) r)).toInt64)) * 31 + ((nI (hDoors σ r)).toInt64)) * 31 + (oN (hAway σ 0 r)))), (0, .ref a)]) hx hb dX2_joinedRooms_68 hl (k := 2) rfl (nI_add r 1) (by decide) rfl (fun ls hl => ?_)
        refine lv_goto (tgt := 5) hx hb dX2_joinedRooms_71 (by decide) ?_
        exact ih5 (r + 1) ((((d * 31 + (aN ((zS σ) r))) * 31 + ((nI ((zC σ) r)).toInt64)) * 31 + ((nI (hDoors σ r)).toInt64)) * 31 + (oN (hAway σ 0 r))) (by omega) (by omega) (by rw [← hE, show zN σ - r = (zN σ - (r + 1)) + 1 by omega, jrL]) ls (lv_sub hl [2, 1, 0] rfl)
  exact loop5 (zN σ + 1) 0 d0 (by omega) (by omega) rfl ls (lv_sub hl [2, 1, 0] rfl)

set_option maxHeartbeats 4000000 in
set_option maxRecDepth 100000 in
theorem c_X2_joinedDoors (l : Launch) (D : va_G) (cZ cI : ClassId) (a : Nat) (o : Nat → Nat) (o' : Nat → Nat) (q : Nat → Nat) (κ : CS) (ω : OS) (ω' : OS) (σ : HS)  (d0 : Int64) (hσ : zOk σ) (hnw : kn κ < 2 ^ 30) : Met l yX2_joinedDoors wsX2_joinedDoors ({ frames := 3, cells := 0, slots := 0, locals := 65 }) (RdP D cZ cI [.ref a, .long d0] (pD cZ cI a o o' q κ ω ω' σ)) (vp_Sl (fun r0 => r0 = jdL σ (kn κ) (zM σ) 0 d0)) 0 0 (fun _ => False) := by
  refine Met.ofW (cc := cX2_joinedDoors) (maxL := 6) (ret := (some .long)) (by decide) rfl ?_
  intro p e s m args below meth c s₁ B hml hv
  obtain ⟨rfl, hP, hZ⟩ := hv
  have hx := B.exec
  have hb := B.bytes
  have hr := B.returns
  have hts := atoms_spec (ws := wsX2_joinedDoors) B.pre
  have hown : s.vm.findClass RX2 = some m.cls := findClass_of_methodNamed B.named
  have hlocks := B.notSynchronized
  have hP : va_P D vwCl (pD cZ cI a o o' q κ ω ω' σ) s.heap := hP
  have hl := lv_entry ([.ref a, .long d0]) (n := 6) (Nat.le_of_ble_eq_true rfl)
  rw [lg_entry_eq]
  generalize (lg_sl ([.ref a, .long d0]) ++ List.replicate (6 - (lg_sl ([.ref a, .long d0])).length) Slot.unset).toArray = ls at hl ⊢
  have hl : lv_has ls 6 [(0, .ref a), (1, .long d0)] := hl
  have hin2 : ∀ w ∈ u_ws RX2 TX2 9, w ∈ wsX2_joinedDoors := by decide +kernel
  have hin0 : ∀ w ∈ u_ws RX0 TX0 9, w ∈ wsX2_joinedDoors := by decide +kernel
  have hf10 := hts (.fieldLink RX2 10 "DoorChase" "house" "LDoorChase$House;") (by decide +kernel)
  have hf62 := hts (.fieldLink RX2 62 "DoorChase$House" "doorCount" "I") (by decide +kernel)
  obtain ⟨hσ1, hσ2, hσ3, hσ4, hσ5, hσ6, hσ7⟩ := id hσ
  refine lv_lload_n hx hb dX2_joinedDoors_0 rfl (lv_at hl 1 rfl) ?_
  refine lv_lstore_n (lv' := [(3, .long d0), (0, .ref a), (1, .long d0)]) hx hb dX2_joinedDoors_1 rfl hl (by decide) rfl (fun ls hl => ?_)
  refine lv_iconst (v := nI 0) hx hb dX2_joinedDoors_2 (by decide) ?_
  refine lv_istore (lv' := [(5, .int (nI 0)), (3, .long d0), (0, .ref a), (1, .long d0)]) hx hb dX2_joinedDoors_3 hl (by decide) rfl (fun ls hl => ?_)
  have loop5 : ∀ (n : Nat) (i : Nat) (d : Int64), zM σ + 1 ≤ i + n → (i ≤ zM σ) → (jdL σ (kn κ) (zM σ - i) i d = jdL σ (kn κ) (zM σ) 0 d0) → ∀ (ls : Array Slot), lv_has ls 6 [(0, .ref a), (3, .long d), (5, .int (nI i))] → W p l e (headSpec wsX2_joinedDoors ({ frames := 3, cells := 0, slots := 0, locals := 65 })).room s m ([.ref a, .long d0] : List Value).toArray below meth c s.heap [] 0 0 (MQ below (vp_Sl (fun r0 => r0 = jdL σ (kn κ) (zM σ) 0 d0)) ([.ref a, .long d0] : List Value).toArray s 0 0 (fun _ => False)) (F0 m 5 ls []) := by
    intro n
    induction n with
    | zero =>
      intro i d hmeas hi8 hE ls hl
      exact absurd hmeas (by omega)
    | succ n ih5 =>
      intro i d hmeas hi8 hE ls hl
      refine lv_iload hx hb dX2_joinedDoors_5 (lv_at hl 2 rfl) ?_
      refine lv_aload_n hx hb dX2_joinedDoors_7 rfl (lv_at hl 0 rfl) ?_
      refine va_get (D := D) (ci := 2) (v := .ref (q 0)) (C := RX2) (T := TX2) (N := 9) hx hb hts hin2 hown hZ.1 hP 0 rfl rfl 0 (by decide) hf10 (fun _ h9 => h9) rfl dX2_joinedDoors_8 ?_
      refine va_get (D := D) (ci := 0) (v := .int (nI (zM σ))) (C := RX0) (T := TX0) (N := 9) hx hb hts hin0 hown hZ.1 hP 11 rfl rfl 3 (by decide) hf62 (fun _ h9 => h9) rfl dX2_joinedDoors_11 ?_
      refine rv_ge (tgt := 63) hx hb (by omega) (by omega) dX2_joinedDoors_14 (by decide) (fun c14_1 => ?_) (fun c14_1 => ?_)
      · skip
        refine lv_lload_n hx hb dX2_joinedDoors_63 rfl (lv_at hl 1 rfl) ?_
        exact W.lret (v := d) hx hb hr (fun t ht hW => ⟨_, rfl, (show d = jdL σ (kn κ) (zM σ) 0 d0 from by rw [← hE, show zM σ - i = 0 by omega]; rfl), ht⟩) (fun q h => absurd h List.not_mem_nil) dX2_joinedDoors_64
      · skip
        refine lv_lload_n hx hb dX2_joinedDoors_17 rfl (lv_at hl 1 rfl) ?_
        refine lv_aload_n hx hb dX2_joinedDoors_18 rfl (lv_at hl 0 rfl) ?_
        refine lv_iload hx hb dX2_joinedDoors_19 (lv_at hl 2 rfl) ?_
        refine vp_callSi (va_runV (As := [.int (nI i)]) (rest := [.long d]) ⟨hx, hb, hml, hown, hts⟩ (c_X2_isLocked l D cZ cI a o o' q κ ω ω' σ  i (by first | assumption | omega) (by first | assumption | omega)) (cwV 1 hts gX2_joinedDoors_X2_isLocked rfl rfl rfl (by decide +kernel) ⟨Nat.le_of_ble_eq_true rfl, Nat.le_of_ble_eq_true rfl⟩) ⟨RdP_blind, va_recv hZ.1 hP (ci := 2) (q0 := 0) rfl rfl, RdP_start (hP.sub (ws' := pD cZ cI a o o' q κ ω ω' σ) [0, 1, 2, 3, 4, 5, 6, 7, 8, 9, 10, 11, 12, 13, 14, 15, 16, 17, 18] rfl) hZ⟩ rfl rfl hl.1 rfl (lv_room (Nat.le_of_ble_eq_true rfl)) dX2_joinedDoors_21 ⟨Nat.le_of_ble_eq_true rfl, Nat.le_of_ble_eq_true rfl⟩).run (fun r_2 hr_3 => ?_)
        subst hr_3
        refine rv_top (show _ = bI ((zL σ) i) from rfl) ?_
        refine vp_callSl (va_runS (As := [.int (bI ((zL σ) i))]) (rest := [.long d]) ⟨hx, hb, hml, hown, hts⟩ (c_X2_asNumber l D cZ cI   ((zL σ) i) ) (va_cwS 1 hts gX2_joinedDoors_X2_asNumber rfl rfl rfl (by decide +kernel) ⟨Nat.le_of_ble_eq_true rfl, Nat.le_of_ble_eq_true rfl⟩) ⟨RdP_blind, RdP_start (hP.sub (ws' := []) [] rfl) hZ⟩ rfl rfl hl.1 rfl (lv_room (Nat.le_of_ble_eq_true rfl)) dX2_joinedDoors_24 ⟨Nat.le_of_ble_eq_true rfl, Nat.le_of_ble_eq_true rfl⟩).run (fun r_4 hr_5 => ?_)
        subst hr_5
        refine vp_callSl (va_runS (As := [.long d, .long (aN ((zL σ) i))]) (rest := []) ⟨hx, hb, hml, hown, hts⟩ (c_X2_joined l D cZ cI   d (aN ((zL σ) i)) ) (va_cwS 2 hts gX2_joinedDoors_X2_joined rfl rfl rfl (by decide +kernel) ⟨Nat.le_of_ble_eq_true rfl, Nat.le_of_ble_eq_true rfl⟩) ⟨RdP_blind, RdP_start (hP.sub (ws' := []) [] rfl) hZ⟩ rfl rfl hl.1 rfl (lv_room (Nat.le_of_ble_eq_true rfl)) dX2_joinedDoors_27 ⟨Nat.le_of_ble_eq_true rfl, Nat.le_of_ble_eq_true rfl⟩).run (fun r_6 hr_7 => ?_)
        subst hr_7
        refine lv_lstore_n (lv' := [(3, .long (d * 31 + (aN ((zL σ) i)))), (0, .ref a), (5, .int (nI i))]) hx hb dX2_joinedDoors_30 rfl hl (by decide) rfl (fun ls hl => ?_)
        refine lv_lload_n hx hb dX2_joinedDoors_31 rfl (lv_at hl 0 rfl) ?_
        refine lv_aload_n hx hb dX2_joinedDoors_32 rfl (lv_at hl 1 rfl) ?_
        refine lv_iload hx hb dX2_joinedDoors_33 (lv_at hl 2 rfl) ?_
        refine vp_callSi (va_runV (As := [.int (nI i)]) (rest := [.long (d * 31 + (aN ((zL σ) i)))]) ⟨hx, hb, hml, hown, hts⟩ (c_X2_isOpen l D cZ cI a o o' q κ ω ω' σ  i (by first | assumption | omega) (by first | assumption | omega) (by first | assumption | omega)) (cwV 1 hts gX2_joinedDoors_X2_isOpen rfl rfl rfl (by decide +kernel) ⟨Nat.le_of_ble_eq_true rfl, Nat.le_of_ble_eq_true rfl⟩) ⟨RdP_blind, va_recv hZ.1 hP (ci := 2) (q0 := 0) rfl rfl, RdP_start (hP.sub (ws' := pD cZ cI a o o' q κ ω ω' σ) [0, 1, 2, 3, 4, 5, 6, 7, 8, 9, 10, 11, 12, 13, 14, 15, 16, 17, 18] rfl) hZ⟩ rfl rfl hl.1 rfl (lv_room (Nat.le_of_ble_eq_true rfl)) dX2_joinedDoors_35 ⟨Nat.le_of_ble_eq_true rfl, Nat.le_of_ble_eq_true rfl⟩).run (fun r_8 hr_9 => ?_)
        subst hr_9
        refine rv_top (show _ = bI (hOpen σ i (((kn κ) + 0) % 12)) from rfl) ?_
        refine vp_callSl (va_runS (As := [.int (bI (hOpen σ i (((kn κ) + 0) % 12)))]) (rest := [.long (d * 31 + (aN ((zL σ) i)))]) ⟨hx, hb, hml, hown, hts⟩ (c_X2_asNumber l D cZ cI   (hOpen σ i (((kn κ) + 0) % 12)) ) (va_cwS 1 hts gX2_joinedDoors_X2_asNumber rfl rfl rfl (by decide +kernel) ⟨Nat.le_of_ble_eq_true rfl, Nat.le_of_ble_eq_true rfl⟩) ⟨RdP_blind, RdP_start (hP.sub (ws' := []) [] rfl) hZ⟩ rfl rfl hl.1 rfl (lv_room (Nat.le_of_ble_eq_true rfl)) dX2_joinedDoors_38 ⟨Nat.le_of_ble_eq_true rfl, Nat.le_of_ble_eq_true rfl⟩).run (fun r_10 hr_11 => ?_)
        subst hr_11
        refine vp_callSl (va_runS (As := [.long (d * 31 + (aN ((zL σ) i))), .long (aN (hOpen σ i (((kn κ) + 0) % 12)))]) (rest := []) ⟨hx, hb, hml, hown, hts⟩ (c_X2_joined l D cZ cI   (d * 31 + (aN ((zL σ) i))) (aN (hOpen σ i (((kn κ) + 0) % 12))) ) (va_cwS 2 hts gX2_joinedDoors_X2_joined rfl rfl rfl (by decide +kernel) ⟨Nat.le_of_ble_eq_true rfl, Nat.le_of_ble_eq_true rfl⟩) ⟨RdP_blind, RdP_start (hP.sub (ws' := []) [] rfl) hZ⟩ rfl rfl hl.1 rfl (lv_room (Nat.le_of_ble_eq_true rfl)) dX2_joinedDoors_41 ⟨Nat.le_of_ble_eq_true rfl, Nat.le_of_ble_eq_true rfl⟩).run (fun r_12 hr_13 => ?_)
        subst hr_13
        refine lv_lstore_n (lv' := [(3, .long ((d * 31 + (aN ((zL σ) i))) * 31 + (aN (hOpen σ i (((kn κ) + 0) % 12))))), (0, .ref a), (5, .int (nI i))]) hx hb dX2_joinedDoors_44 rfl hl (by decide) rfl (fun ls hl => ?_)
        refine lv_lload_n hx hb dX2_joinedDoors_45 rfl (lv_at hl 0 rfl) ?_
        refine lv_aload_n hx hb dX2_joinedDoors_46 rfl (lv_at hl 1 rfl) ?_
        refine lv_iload hx hb dX2_joinedDoors_47 (lv_at hl 2 rfl) ?_
        refine vp_callSi (va_runV (As := [.int (nI i)]) (rest := [.long ((d * 31 + (aN ((zL σ) i))) * 31 + (aN (hOpen σ i (((kn κ) + 0) % 12))))]) ⟨hx, hb, hml, hown, hts⟩ (c_X2_turnsUntilOpen l D cZ cI a o o' q κ ω ω' σ  i (by first | assumption | omega) (by first | assumption | omega) (by first | assumption | omega)) (cwV 1 hts gX2_joinedDoors_X2_turnsUntilOpen rfl rfl rfl (by decide +kernel) ⟨Nat.le_of_ble_eq_true rfl, Nat.le_of_ble_eq_true rfl⟩) ⟨RdP_blind, va_recv hZ.1 hP (ci := 2) (q0 := 0) rfl rfl, RdP_start (hP.sub (ws' := pD cZ cI a o o' q κ ω ω' σ) [0, 1, 2, 3, 4, 5, 6, 7, 8, 9, 10, 11, 12, 13, 14, 15, 16, 17, 18] rfl) hZ⟩ rfl rfl hl.1 rfl (lv_room (Nat.le_of_ble_eq_true rfl)) dX2_joinedDoors_49 ⟨Nat.le_of_ble_eq_true rfl, Nat.le_of_ble_eq_true rfl⟩).run (fun r_14 hr_15 => ?_)
        subst hr_15
        refine rv_top (show _ = iO (hUntil σ ((kn κ)) i) from rfl) ?_
        refine lv_i2l (v := oN (hUntil σ ((kn κ)) i)) hx hb dX2_joinedDoors_52 rfl ?_
        refine vp_callSl (va_runS (As := [.long ((d * 31 + (aN ((zL σ) i))) * 31 + (aN (hOpen σ i (((kn κ) + 0) % 12)))), .long (oN (hUntil σ ((kn κ)) i))]) (rest := []) ⟨hx, hb, hml, hown, hts⟩ (c_X2_joined l D cZ cI   ((d * 31 + (aN ((zL σ) i))) * 31 + (aN (hOpen σ i (((kn κ) + 0) % 12)))) (oN (hUntil σ ((kn κ)) i)) ) (va_cwS 2 hts gX2_joinedDoors_X2_joined rfl rfl rfl (by decide +kernel) ⟨Nat.le_of_ble_eq_true rfl, Nat.le_of_ble_eq_true rfl⟩) ⟨RdP_blind, RdP_start (hP.sub (ws' := []) [] rfl) hZ⟩ rfl rfl hl.1 rfl (lv_room (Nat.le_of_ble_eq_true rfl)) dX2_joinedDoors_53 ⟨Nat.le_of_ble_eq_true rfl, Nat.le_of_ble_eq_true rfl⟩).run (fun r_16 hr_17 => ?_)
        subst hr_17
        refine lv_lstore_n (lv' := [(3, .long (((d * 31 + (aN ((zL σ) i))) * 31 + (aN (hOpen σ i (((kn κ) + 0) % 12)))) * 31 + (oN (hUntil σ ((kn κ)) i)))), (0, .ref a), (5, .int (nI i))]) hx hb dX2_joinedDoors_56 rfl hl (by decide) rfl (fun ls hl => ?_)
        refine lv_iinc (v := nI (i + 1)) (lv' := [(5, .int (nI (i + 1))), (3, .long (((d * 31 + (aN ((zL σ) i))) * 31 + (aN (hOpen σ i (((kn κ) + 0) % 12)))) * 31 + (oN (hUntil σ ((kn κ)) i)))), (0, .ref a)]) hx hb dX2_joinedDoors_57 hl (k := 2) rfl (nI_add i 1) (by decide) rfl (fun ls hl => ?_)
        refine lv_goto (tgt := 5) hx hb dX2_joinedDoors_60 (by decide) ?_
        exact ih5 (i + 1) (((d * 31 + (aN ((zL σ) i))) * 31 + (aN (hOpen σ i (((kn κ) + 0) % 12)))) * 31 + (oN (hUntil σ ((kn κ)) i))) (by omega) (by omega) (by rw [← hE, show zM σ - i = (zM σ - (i + 1)) + 1 by omega, jdL]) ls (lv_sub hl [2, 1, 0] rfl)
  exact loop5 (zM σ + 1) 0 d0 (by omega) (by omega) rfl ls (lv_sub hl [2, 1, 0] rfl)


