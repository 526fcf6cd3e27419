set_option maxHeartbeats 4000000 in
set_option maxRecDepth 100000 in
theorem c_X2_bit (l : Launch) (D : va_G) (cZ cI : ClassId)   (r : Nat) (h0 : r < 8) : Met l yX2_bit wsX2_bit ({ frames := 0, cells := 0, slots := 0, locals := 0 }) (RdP D cZ cI [.int (nI r)] ([])) (vp_Si (fun r0 => r0 = sb (fun i => i == r))) 0 0 (fun _ => False) := by
  refine Met.ofW (cc := cX2_bit) (maxL := 1) (ret := (some .int)) (by decide) rfl ?_
  intro p e s m args below meth c s₁ B hml hv
  obtain ⟨rfl, hP, hZ⟩ := hv
  have hx := B.exec
  have hb := B.bytes
  have hr := B.returns
  have hts := atoms_spec (ws := wsX2_bit) B.pre
  have hown : s.vm.findClass RX2 = some m.cls := findClass_of_methodNamed B.named
  have hlocks := B.notSynchronized
  have hP : va_P D vwCl ([]) s.heap := hP
  have hl := lv_entry ([.int (nI r)]) (n := 1) (Nat.le_of_ble_eq_true rfl)
  rw [lg_entry_eq]
  generalize (lg_sl ([.int (nI r)]) ++ List.replicate (1 - (lg_sl ([.int (nI r)])).length) Slot.unset).toArray = ls at hl ⊢
  have hl : lv_has ls 1 [(0, .int (nI r))] := hl
  refine lv_iconst (v := nI 1) hx hb dX2_bit_0 (by decide) ?_
  refine lv_iload_n hx hb dX2_bit_1 rfl (lv_at hl 0 rfl) ?_
  refine rv_shl hx hb (by omega) dX2_bit_2 ?_
  exact W.iret (v := sb (fun i => i == r)) hx hb hr (fun t ht hW => ⟨_, rfl, rfl, ht⟩) (fun q h => absurd h List.not_mem_nil) dX2_bit_3

set_option maxHeartbeats 4000000 in
set_option maxRecDepth 100000 in
theorem c_X2_holds (l : Launch) (D : va_G) (cZ cI : ClassId)   (P : Nat → Bool) (r : Nat) (h0 : r < 8) : Met l yX2_holds wsX2_holds ({ frames := 0, cells := 0, slots := 0, locals := 0 }) (RdP D cZ cI [.int (sb P), .int (nI r)] ([])) (vp_Si (fun r0 => r0 = bI (P r))) 0 0 (fun _ => False) := by
  refine Met.ofW (cc := cX2_holds) (maxL := 2) (ret := (some .boolean)) (by decide) rfl ?_
  intro p e s m args below meth c s₁ B hml hv
  obtain ⟨rfl, hP, hZ⟩ := hv
  have hx := B.exec
  have hb := B.bytes
  have hr := B.returns
  have hts := atoms_spec (ws := wsX2_holds) B.pre
  have hown : s.vm.findClass RX2 = some m.cls := findClass_of_methodNamed B.named
  have hlocks := B.notSynchronized
  have hP : va_P D vwCl ([]) s.heap := hP
  have hl := lv_entry ([.int (sb P), .int (nI r)]) (n := 2) (Nat.le_of_ble_eq_true rfl)
  rw [lg_entry_eq]
  generalize (lg_sl ([.int (sb P), .int (nI r)]) ++ List.replicate (2 - (lg_sl ([.int (sb P), .int (nI r)])).length) Slot.unset).toArray = ls at hl ⊢
  have hl : lv_has ls 2 [(0, .int (sb P)), (1, .int (nI r))] := hl
  refine lv_iload_n hx hb dX2_holds_0 rfl (lv_at hl 0 rfl) ?_
  refine lv_iload_n hx hb dX2_holds_1 rfl (lv_at hl 1 rfl) ?_
  refine lv_ishr hx hb dX2_holds_2 ?_
  refine lv_iconst (v := nI 1) hx hb dX2_holds_3 (by decide) ?_
  refine rv_hold hx hb (by omega) dX2_holds_4 ?_
  refine lv_iconst (v := nI 1) hx hb dX2_holds_5 (by decide) ?_
  refine rv_neB1 (tgt := 13) hx hb dX2_holds_6 (by decide) (fun c6_1 => ?_) (fun c6_1 => ?_)
  · skip
    refine lv_iconst (v := nI 0) hx hb dX2_holds_13 (by decide) ?_
    exact W.zret (v := nI 0) hx hb hr rfl (fun t ht hW => ⟨_, rfl, (show nI 0 = bI (P r) from by rw [c6_1]; rfl), ht⟩) (fun q h => absurd h List.not_mem_nil) dX2_holds_14
  · skip
    refine lv_iconst (v := nI 1) hx hb dX2_holds_9 (by decide) ?_
    refine lv_goto (tgt := 14) hx hb dX2_holds_10 (by decide) ?_
    exact W.zret (v := nI 1) hx hb hr rfl (fun t ht hW => ⟨_, rfl, (show nI 1 = bI (P r) from by rw [c6_1]; rfl), ht⟩) (fun q h => absurd h List.not_mem_nil) dX2_holds_14

set_option maxHeartbeats 4000000 in
set_option maxRecDepth 100000 in
theorem c_X1_placeOf (l : Launch) (D : va_G) (cZ cI : ClassId)   (x : Nat) (y : Nat)  : Met l yX1_placeOf wsX1_placeOf ({ frames := 0, cells := 0, slots := 0, locals := 0 }) (RdP D cZ cI [.int (nI x), .int (nI y)] ([])) (vp_Si (fun r0 => r0 = nI (x * 8 + y))) 0 0 (fun _ => False) := by
  refine Met.ofW (cc := cX1_placeOf) (maxL := 2) (ret := (some .int)) (by decide) rfl ?_
  intro p e s m args below meth c s₁ B hml hv
  obtain ⟨rfl, hP, hZ⟩ := hv
  have hx := B.exec
  have hb := B.bytes
  have hr := B.returns
  have hts := atoms_spec (ws := wsX1_placeOf) B.pre
  have hown : s.vm.findClass RX1 = some m.cls := findClass_of_methodNamed B.named
  have hlocks := B.notSynchronized
  have hP : va_P D vwCl ([]) s.heap := hP
  have hl := lv_entry ([.int (nI x), .int (nI y)]) (n := 2) (Nat.le_of_ble_eq_true rfl)
  rw [lg_entry_eq]
  generalize (lg_sl ([.int (nI x), .int (nI y)]) ++ List.replicate (2 - (lg_sl ([.int (nI x), .int (nI y)])).length) Slot.unset).toArray = ls at hl ⊢
  have hl : lv_has ls 2 [(0, .int (nI x)), (1, .int (nI y))] := hl
  refine lv_iload_n hx hb dX1_placeOf_0 rfl (lv_at hl 0 rfl) ?_
  refine lv_bipush (v := nI 8) hx hb dX1_placeOf_1 (by decide) ?_
  refine rv_mul hx hb dX1_placeOf_3 ?_
  refine lv_iload_n hx hb dX1_placeOf_4 rfl (lv_at hl 1 rfl) ?_
  refine rv_add hx hb dX1_placeOf_5 ?_
  exact W.iret (v := nI (x * 8 + y)) hx hb hr (fun t ht hW => ⟨_, rfl, rfl, ht⟩) (fun q h => absurd h List.not_mem_nil) dX1_placeOf_6

set_option maxHeartbeats 4000000 in
set_option maxRecDepth 100000 in
theorem c_X1_phaseBehind (l : Launch) (D : va_G) (cZ cI : ClassId)   (x : Nat) (h0 : x < 12) : Met l yX1_phaseBehind wsX1_phaseBehind ({ frames := 0, cells := 0, slots := 0, locals := 0 }) (RdP D cZ cI [.int (nI x)] ([])) (vp_Si (fun r0 => r0 = nI (nextP x))) 0 0 (fun _ => False) := by
  refine Met.ofW (cc := cX1_phaseBehind) (maxL := 1) (ret := (some .int)) (by decide) rfl ?_
  intro p e s m args below meth c s₁ B hml hv
  obtain ⟨rfl, hP, hZ⟩ := hv
  have hx := B.exec
  have hb := B.bytes
  have hr := B.returns
  have hts := atoms_spec (ws := wsX1_phaseBehind) B.pre
  have hown : s.vm.findClass RX1 = some m.cls := findClass_of_methodNamed B.named
  have hlocks := B.notSynchronized
  have hP : va_P D vwCl ([]) s.heap := hP
  have hl := lv_entry ([.int (nI x)]) (n := 1) (Nat.le_of_ble_eq_true rfl)
  rw [lg_entry_eq]
  generalize (lg_sl ([.int (nI x)]) ++ List.replicate (1 - (lg_sl ([.int (nI x)])).length) Slot.unset).toArray = ls at hl ⊢
  have hl : lv_has ls 1 [(0, .int (nI x))] := hl
  refine lv_iload_n hx hb dX1_phaseBehind_0 rfl (lv_at hl 0 rfl) ?_
  refine lv_iconst (v := nI 1) hx hb dX1_phaseBehind_1 (by decide) ?_
  refine rv_add hx hb dX1_phaseBehind_2 ?_
  refine lv_bipush (v := nI 12) hx hb dX1_phaseBehind_3 (by decide) ?_
  refine rv_ge (tgt := 14) hx hb (by omega) (by omega) dX1_phaseBehind_5 (by decide) (fun c5_1 => ?_) (fun c5_1 => ?_)
  · skip
    refine lv_iconst (v := nI 0) hx hb dX1_phaseBehind_14 (by decide) ?_
    exact W.iret (v := nI 0) hx hb hr (fun t ht hW => ⟨_, rfl, (show nI 0 = nI (nextP x) from by simp [nextP, c5_1]), ht⟩) (fun q h => absurd h List.not_mem_nil) dX1_phaseBehind_15
  · skip
    refine lv_iload_n hx hb dX1_phaseBehind_8 rfl (lv_at hl 0 rfl) ?_
    refine lv_iconst (v := nI 1) hx hb dX1_phaseBehind_9 (by decide) ?_
    refine rv_add hx hb dX1_phaseBehind_10 ?_
    refine lv_goto (tgt := 15) hx hb dX1_phaseBehind_11 (by decide) ?_
    exact W.iret (v := nI (x + 1)) hx hb hr (fun t ht hW => ⟨_, rfl, (show nI (x + 1) = nI (nextP x) from by simp [nextP, c5_1]), ht⟩) (fun q h => absurd h List.not_mem_nil) dX1_phaseBehind_15

set_option maxHeartbeats 4000000 in
set_option maxRecDepth 100000 in
theorem c_X2_isCatsPhase (l : Launch) (D : va_G) (cZ cI : ClassId)   (x : Nat) (h0 : x < 2 ^ 31) : Met l yX2_isCatsPhase wsX2_isCatsPhase ({ frames := 0, cells := 0, slots := 0, locals := 0 }) (RdP D cZ cI [.int (nI x)] ([])) (vp_Si (fun r0 => r0 = bI (isC x))) 0 0 (fun _ => False) := by
  refine Met.ofW (cc := cX2_isCatsPhase) (maxL := 1) (ret := (some .boolean)) (by decide) rfl ?_
  intro p e s m args below meth c s₁ B hml hv
  obtain ⟨rfl, hP, hZ⟩ := hv
  have hx := B.exec
  have hb := B.bytes
  have hr := B.returns
  have hts := atoms_spec (ws := wsX2_isCatsPhase) B.pre
  have hown : s.vm.findClass RX2 = some m.cls := findClass_of_methodNamed B.named
  have hlocks := B.notSynchronized
  have hP : va_P D vwCl ([]) s.heap := hP
  have hl := lv_entry ([.int (nI x)]) (n := 1) (Nat.le_of_ble_eq_true rfl)
  rw [lg_entry_eq]
  generalize (lg_sl ([.int (nI x)]) ++ List.replicate (1 - (lg_sl ([.int (nI x)])).length) Slot.unset).toArray = ls at hl ⊢
  have hl : lv_has ls 1 [(0, .int (nI x))] := hl
  refine lv_iload_n hx hb dX2_isCatsPhase_0 rfl (lv_at hl 0 rfl) ?_
  refine lv_iconst (v := nI 1) hx hb dX2_isCatsPhase_1 (by decide) ?_
  refine rv_and1 hx hb (by omega) dX2_isCatsPhase_2 ?_
  refine lv_iconst (v := nI 1) hx hb dX2_isCatsPhase_3 (by decide) ?_
  refine rv_ne (tgt := 11) hx hb (by omega) (by omega) dX2_isCatsPhase_4 (by decide) (fun c4_1 => ?_) (fun c4_1 => ?_)
  · skip
    refine lv_iconst (v := nI 0) hx hb dX2_isCatsPhase_11 (by decide) ?_
    exact W.zret (v := nI 0) hx hb hr rfl (fun t ht hW => ⟨_, rfl, (show nI 0 = bI (isC x) from by rw [show isC x = false from by simp [isC, c4_1]]; rfl), ht⟩) (fun q h => absurd h List.not_mem_nil) dX2_isCatsPhase_12
  · skip
    refine lv_iconst (v := nI 1) hx hb dX2_isCatsPhase_7 (by decide) ?_
    refine lv_goto (tgt := 12) hx hb dX2_isCatsPhase_8 (by decide) ?_
    exact W.zret (v := nI 1) hx hb hr rfl (fun t ht hW => ⟨_, rfl, (show nI 1 = bI (isC x) from by rw [show isC x = true from by simp [isC, c4_1]]; rfl), ht⟩) (fun q h => absurd h List.not_mem_nil) dX2_isCatsPhase_12

set_option maxHeartbeats 4000000 in
set_option maxRecDepth 100000 in
theorem c_X0_isOpenIn (l : Launch) (D : va_G) (cZ cI : ClassId) (q : Nat → Nat) (σ : HS)  (d : Nat) (ph : Nat) (hσ : zOk σ) (hd : d < 14) (hph : ph < 12) : Met l yX0_isOpenIn wsX0_isOpenIn ({ frames := 0, cells := 0, slots := 0, locals := 0 }) (RdP D cZ cI [.ref (q 0), .int (nI d), .int (nI ph)] (pH cZ cI q σ)) (vp_Si (fun r0 => r0 = bI (hOpen σ d ph))) 0 0 (fun _ => False) := by
  refine Met.ofW (cc := cX0_isOpenIn) (maxL := 4) (ret := (some .boolean)) (by decide) rfl ?_
  intro p e s m args below meth c s₁ B hml hv
  obtain ⟨rfl, hP, hZ⟩ := hv
  have hx := B.exec
  have hb := B.bytes
  have hr := B.returns
  have hts := atoms_spec (ws := wsX0_isOpenIn) B.pre
  have hown : s.vm.findClass RX0 = some m.cls := findClass_of_methodNamed B.named
  have hlocks := B.notSynchronized
  have hP : va_P D vwCl (pH cZ cI q σ) s.heap := hP
  have hl := lv_entry ([.ref (q 0), .int (nI d), .int (nI ph)]) (n := 4) (Nat.le_of_ble_eq_true rfl)
  rw [lg_entry_eq]
  generalize (lg_sl ([.ref (q 0), .int (nI d), .int (nI ph)]) ++ List.replicate (4 - (lg_sl ([.ref (q 0), .int (nI d), .int (nI ph)])).length) Slot.unset).toArray = ls at hl ⊢
  have hl : lv_has ls 4 [(0, .ref (q 0)), (1, .int (nI d)), (2, .int (nI ph))] := hl
  have hin0 : ∀ w ∈ u_ws RX0 TX0 9, w ∈ wsX0_isOpenIn := by decide +kernel
  have hf25 := hts (.fieldLink RX0 25 "DoorChase$House" "periods" "[I") (by decide +kernel)
  have hf28 := hts (.fieldLink RX0 28 "DoorChase$House" "rests" "[I") (by decide +kernel)
  have hf31 := hts (.fieldLink RX0 31 "DoorChase$House" "locked" "[Z") (by decide +kernel)
  obtain ⟨hσ1, hσ2, hσ3, hσ4, hσ5, hσ6, hσ7⟩ := id hσ
  have h9 := hσ5 d
  have h8 := hσ6 d
  refine lv_aload_n hx hb dX0_isOpenIn_0 rfl (lv_at hl 0 rfl) ?_
  refine va_get (D := D) (ci := 0) (v := .ref (q 7)) (C := RX0) (T := TX0) (N := 9) hx hb hts hin0 hown hZ.1 hP 0 rfl rfl 8 (by decide) hf31 (fun _ h9 => h9) rfl dX0_isOpenIn_1 ?_
  refine lv_iload_n hx hb dX0_isOpenIn_4 rfl (lv_at hl 1 rfl) ?_
  refine rv_zald hx hb hZ.1 hP 7 0 rfl rfl (r := d) (by omega) (by decide) (v := bI ((zL σ) d)) rfl dX0_isOpenIn_5 ?_
  refine rv_ifeqB (tgt := 11) hx hb dX0_isOpenIn_6 (by decide) (fun c6_1 => ?_) (fun c6_1 => ?_)
  · skip
    refine lv_aload_n hx hb dX0_isOpenIn_11 rfl (lv_at hl 0 rfl) ?_
    refine va_get (D := D) (ci := 0) (v := .ref (q 5)) (C := RX0) (T := TX0) (N := 9) hx hb hts hin0 hown hZ.1 hP 0 rfl rfl 6 (by decide) hf25 (fun _ h9 => h9) rfl dX0_isOpenIn_12 ?_
    refine lv_iload_n hx hb dX0_isOpenIn_15 rfl (lv_at hl 1 rfl) ?_
    refine rv_iald hx hb hZ.1 hP 5 1 rfl rfl (r := d) (by omega) (by decide) (v := nI ((zP σ) d)) rfl dX0_isOpenIn_16 ?_
    refine lv_istore_n (lv' := [(3, .int (nI ((zP σ) d))), (0, .ref (q 0)), (1, .int (nI d)), (2, .int (nI ph))]) hx hb dX0_isOpenIn_17 rfl hl (by decide) rfl (fun ls hl => ?_)
    refine lv_iload_n hx hb dX0_isOpenIn_18 rfl (lv_at hl 0 rfl) ?_
    refine lv_iconst (v := nI 1) hx hb dX0_isOpenIn_19 (by decide) ?_
    refine rv_le (tgt := 35) hx hb (by omega) (by omega) dX0_isOpenIn_20 (by decide) (fun c20_2 => ?_) (fun c20_2 => ?_)
    · skip
      refine lv_iconst (v := nI 1) hx hb dX0_isOpenIn_35 (by decide) ?_
      refine lv_goto (tgt := 40) hx hb dX0_isOpenIn_36 (by decide) ?_
      exact W.zret (v := nI 1) hx hb hr rfl (fun t ht hW => ⟨_, rfl, (show nI 1 = bI (hOpen σ d ph) from by rw [show (hOpen σ d ph) = true from by simp [hOpen, c6_1, c20_2]]; rfl), ht⟩) (fun q h => absurd h List.not_mem_nil) dX0_isOpenIn_40
    · skip
      refine lv_iload_n hx hb dX0_isOpenIn_23 rfl (lv_at hl 3 rfl) ?_
      refine lv_iload_n hx hb dX0_isOpenIn_24 rfl (lv_at hl 0 rfl) ?_
      refine rv_rem hx hb (by omega) (by omega) (by omega) dX0_isOpenIn_25 ?_
      refine lv_aload_n hx hb dX0_isOpenIn_26 rfl (lv_at hl 1 rfl) ?_
      refine va_get (D := D) (ci := 0) (v := .ref (q 6)) (C := RX0) (T := TX0) (N := 9) hx hb hts hin0 hown hZ.1 hP 0 rfl rfl 7 (by decide) hf28 (fun _ h9 => h9) rfl dX0_isOpenIn_27 ?_
      refine lv_iload_n hx hb dX0_isOpenIn_30 rfl (lv_at hl 2 rfl) ?_
      refine rv_iald hx hb hZ.1 hP 6 1 rfl rfl (r := d) (by omega) (by decide) (v := nI ((zT σ) d)) rfl dX0_isOpenIn_31 ?_
      refine rv_eq (tgt := 39) hx hb (Nat.lt_of_le_of_lt (Nat.mod_le _ _) (by omega)) (by omega) dX0_isOpenIn_32 (by decide) (fun c32_3 => ?_) (fun c32_3 => ?_)
      · skip
        refine lv_iconst (v := nI 0) hx hb dX0_isOpenIn_39 (by decide) ?_
        exact W.zret (v := nI 0) hx hb hr rfl (fun t ht hW => ⟨_, rfl, (show nI 0 = bI (hOpen σ d ph) from by rw [show (hOpen σ d ph) = false from by simp [hOpen, c6_1, c20_2, c32_3]]; rfl), ht⟩) (fun q h => absurd h List.not_mem_nil) dX0_isOpenIn_40
      · skip
        refine lv_iconst (v := nI 1) hx hb dX0_isOpenIn_35 (by decide) ?_
        refine lv_goto (tgt := 40) hx hb dX0_isOpenIn_36 (by decide) ?_
        exact W.zret (v := nI 1) hx hb hr rfl (fun t ht hW => ⟨_, rfl, (show nI 1 = bI (hOpen σ d ph) from by rw [show (hOpen σ d ph) = true from by simp [hOpen, c6_1, c20_2, c32_3]]; rfl), ht⟩) (fun q h => absurd h List.not_mem_nil) dX0_isOpenIn_40
  · skip
    refine lv_iconst (v := nI 0) hx hb dX0_isOpenIn_9 (by decide) ?_
    exact W.zret (v := nI 0) hx hb hr rfl (fun t ht hW => ⟨_, rfl, (show nI 0 = bI (hOpen σ d ph) from by rw [show (hOpen σ d ph) = false from by simp [hOpen, c6_1]]; rfl), ht⟩) (fun q h => absurd h List.not_mem_nil) dX0_isOpenIn_10

set_option maxHeartbeats 4000000 in
set_option maxRecDepth 100000 in
theorem c_X0_joining (l : Launch) (D : va_G) (cZ cI : ClassId) (q : Nat → Nat) (σ : HS)  (a : Nat) (b : Nat) (hσ : zOk σ) (ha : a < 8) (hb8 : b < 8) : Met l yX0_joining wsX0_joining ({ frames := 0, cells := 0, slots := 0, locals := 0 }) (RdP D cZ cI [.ref (q 0), .int (nI a), .int (nI b)] (pH cZ cI q σ)) (vp_Si (fun r0 => r0 = iO (hJoin σ a b))) 0 0 (fun _ => False) := by
  refine Met.ofW (cc := cX0_joining) (maxL := 4) (ret := (some .int)) (by decide) rfl ?_
  intro p e s m args below meth c s₁ B hml hv
  obtain ⟨rfl, hP, hZ⟩ := hv
  have hx := B.exec
  have hb := B.bytes
  have hr := B.returns
  have hts := atoms_spec (ws := wsX0_joining) B.pre
  have hown : s.vm.findClass RX0 = some m.cls := findClass_of_methodNamed B.named
  have hlocks := B.notSynchronized
  have hP : va_P D vwCl (pH cZ cI q σ) s.heap := hP
  have hl := lv_entry ([.ref (q 0), .int (nI a), .int (nI b)]) (n := 4) (Nat.le_of_ble_eq_true rfl)
  rw [lg_entry_eq]
  generalize (lg_sl ([.ref (q 0), .int (nI a), .int (nI b)]) ++ List.replicate (4 - (lg_sl ([.ref (q 0), .int (nI a), .int (nI b)])).length) Slot.unset).toArray = ls at hl ⊢
  have hl : lv_has ls 4 [(0, .ref (q 0)), (1, .int (nI a)), (2, .int (nI b))] := hl
  have hin0 : ∀ w ∈ u_ws RX0 TX0 9, w ∈ wsX0_joining := by decide +kernel
  have hf19 := hts (.fieldLink RX0 19 "DoorChase$House" "firstRoom" "[I") (by decide +kernel)
  have hf22 := hts (.fieldLink RX0 22 "DoorChase$House" "secondRoom" "[I") (by decide +kernel)
  have hf38 := hts (.fieldLink RX0 38 "DoorChase$House" "doorCount" "I") (by decide +kernel)
  obtain ⟨hσ1, hσ2, hσ3, hσ4, hσ5, hσ6, hσ7⟩ := id hσ
  refine lv_iconst (v := nI 0) hx hb dX0_joining_0 (by decide) ?_
  refine lv_istore_n (lv' := [(3, .int (nI 0)), (0, .ref (q 0)), (1, .int (nI a)), (2, .int (nI b))]) hx hb dX0_joining_1 rfl hl (by decide) rfl (fun ls hl => ?_)
  have loop2 : ∀ (n : Nat) (d : Nat), zM σ + 1 ≤ d + n → (d ≤ zM σ) → (hJoinFrom σ a b (zM σ - d) d = hJoin σ a b) → ∀ (ls : Array Slot), lv_has ls 4 [(0, .ref (q 0)), (1, .int (nI a)), (2, .int (nI b)), (3, .int (nI d))] → W p l e (headSpec wsX0_joining ({ frames := 0, cells := 0, slots := 0, locals := 0 })).room s m ([.ref (q 0), .int (nI a), .int (nI b)] : List Value).toArray below meth c s.heap [] 0 0 (MQ below (vp_Si (fun r0 => r0 = iO (hJoin σ a b))) ([.ref (q 0), .int (nI a), .int (nI b)] : List Value).toArray s 0 0 (fun _ => False)) (F0 m 2 ls []) := by
    intro n
    induction n with
    | zero =>
      intro d hmeas hd hE ls hl
      exact absurd hmeas (by omega)
    | succ n ih2 =>
      intro d hmeas hd hE ls hl
      have hF9 := hσ3 d
      have hG9 := hσ4 d
      refine lv_iload_n hx hb dX0_joining_2 rfl (lv_at hl 3 rfl) ?_
      refine lv_aload_n hx hb dX0_joining_3 rfl (lv_at hl 0 rfl) ?_
      refine va_get (D := D) (ci := 0) (v := .int (nI (zM σ))) (C := RX0) (T := TX0) (N := 9) hx hb hts hin0 hown hZ.1 hP 0 rfl rfl 3 (by decide) hf38 (fun _ h9 => h9) rfl dX0_joining_4 ?_
      refine rv_ge (tgt := 58) hx hb (by omega) (by omega) dX0_joining_7 (by decide) (fun c7_1 => ?_) (fun c7_1 => ?_)
      · skip
        refine lv_iconst (v := (-1)) hx hb dX0_joining_58 (by decide) ?_
        exact W.iret (v := (-1)) hx hb hr (fun t ht hW => ⟨_, rfl, (show (-1) = iO (hJoin σ a b) from by rw [← hE, show zM σ - d = 0 by omega]; rfl), ht⟩) (fun q h => absurd h List.not_mem_nil) dX0_joining_59
      · skip
        refine lv_aload_n hx hb dX0_joining_10 rfl (lv_at hl 0 rfl) ?_
        refine va_get (D := D) (ci := 0) (v := .ref (q 3)) (C := RX0) (T := TX0) (N := 9) hx hb hts hin0 hown hZ.1 hP 0 rfl rfl 4 (by decide) hf19 (fun _ h9 => h9) rfl dX0_joining_11 ?_
        refine lv_iload_n hx hb dX0_joining_14 rfl (lv_at hl 3 rfl) ?_
        refine rv_iald hx hb hZ.1 hP 3 1 rfl rfl (r := d) (by omega) (by decide) (v := nI ((zF σ) d)) rfl dX0_joining_15 ?_
        refine lv_iload_n hx hb dX0_joining_16 rfl (lv_at hl 1 rfl) ?_
        refine rv_ne (tgt := 30) hx hb (by omega) (by omega) dX0_joining_17 (by decide) (fun c17_2 => ?_) (fun c17_2 => ?_)
        · skip
          refine lv_aload_n hx hb dX0_joining_30 rfl (lv_at hl 0 rfl) ?_
          refine va_get (D := D) (ci := 0) (v := .ref (q 3)) (C := RX0) (T := TX0) (N := 9) hx hb hts hin0 hown hZ.1 hP 0 rfl rfl 4 (by decide) hf19 (fun _ h9 => h9) rfl dX0_joining_31 ?_
          refine lv_iload_n hx hb dX0_joining_34 rfl (lv_at hl 3 rfl) ?_
          refine rv_iald hx hb hZ.1 hP 3 1 rfl rfl (r := d) (by omega) (by decide) (v := nI ((zF σ) d)) rfl dX0_joining_35 ?_
          refine lv_iload_n hx hb dX0_joining_36 rfl (lv_at hl 2 rfl) ?_
          refine rv_ne (tgt := 52) hx hb (by omega) (by omega) dX0_joining_37 (by decide) (fun c37_3 => ?_) (fun c37_3 => ?_)
          · skip
            refine lv_iinc (v := nI (d + 1)) (lv' := [(3, .int (nI (d + 1))), (0, .ref (q 0)), (1, .int (nI a)), (2, .int (nI b))]) hx hb dX0_joining_52 hl (k := 3) rfl (nI_add d 1) (by decide) rfl (fun ls hl => ?_)
            refine lv_goto (tgt := 2) hx hb dX0_joining_55 (by decide) ?_
            exact ih2 (d + 1) (by omega) (by omega) (by rw [← hE, show zM σ - d = (zM σ - (d + 1)) + 1 by omega, hJoinFrom, if_neg (by simp [hJn]; omega)]) ls (lv_sub hl [1, 2, 3, 0] rfl)
          · skip
            refine lv_aload_n hx hb dX0_joining_40 rfl (lv_at hl 0 rfl) ?_
            refine va_get (D := D) (ci := 0) (v := .ref (q 4)) (C := RX0) (T := TX0) (N := 9) hx hb hts hin0 hown hZ.1 hP 0 rfl rfl 5 (by decide) hf22 (fun _ h9 => h9) rfl dX0_joining_41 ?_
            refine lv_iload_n hx hb dX0_joining_44 rfl (lv_at hl 3 rfl) ?_
            refine rv_iald hx hb hZ.1 hP 4 1 rfl rfl (r := d) (by omega) (by decide) (v := nI ((zG σ) d)) rfl dX0_joining_45 ?_
            refine lv_iload_n hx hb dX0_joining_46 rfl (lv_at hl 1 rfl) ?_
            refine rv_ne (tgt := 52) hx hb (by omega) (by omega) dX0_joining_47 (by decide) (fun c47_4 => ?_) (fun c47_4 => ?_)
            · skip
              refine lv_iinc (v := nI (d + 1)) (lv' := [(3, .int (nI (d + 1))), (0, .ref (q 0)), (1, .int (nI a)), (2, .int (nI b))]) hx hb dX0_joining_52 hl (k := 3) rfl (nI_add d 1) (by decide) rfl (fun ls hl => ?_)
              refine lv_goto (tgt := 2) hx hb dX0_joining_55 (by decide) ?_
              exact ih2 (d + 1) (by omega) (by omega) (by rw [← hE, show zM σ - d = (zM σ - (d + 1)) + 1 by omega, hJoinFrom, if_neg (by simp [hJn]; omega)]) ls (lv_sub hl [1, 2, 3, 0] rfl)
            · skip
              refine lv_iload_n hx hb dX0_joining_50 rfl (lv_at hl 3 rfl) ?_
              exact W.iret (v := nI d) hx hb hr (fun t ht hW => ⟨_, rfl, (show nI d = iO (hJoin σ a b) from by rw [← hE, show zM σ - d = (zM σ - (d + 1)) + 1 by omega, hJoinFrom, if_pos (by simp [hJn]; omega)]; rfl), ht⟩) (fun q h => absurd h List.not_mem_nil) dX0_joining_51
        · skip
          refine lv_aload_n hx hb dX0_joining_20 rfl (lv_at hl 0 rfl) ?_
          refine va_get (D := D) (ci := 0) (v := .ref (q 4)) (C := RX0) (T := TX0) (N := 9) hx hb hts hin0 hown hZ.1 hP 0 rfl rfl 5 (by decide) hf22 (fun _ h9 => h9) rfl dX0_joining_21 ?_
          refine lv_iload_n hx hb dX0_joining_24 rfl (lv_at hl 3 rfl) ?_
          refine rv_iald hx hb hZ.1 hP 4 1 rfl rfl (r := d) (by omega) (by decide) (v := nI ((zG σ) d)) rfl dX0_joining_25 ?_
          refine lv_iload_n hx hb dX0_joining_26 rfl (lv_at hl 2 rfl) ?_
          refine rv_eq (tgt := 50) hx hb (by omega) (by omega) dX0_joining_27 (by decide) (fun c27_5 => ?_) (fun c27_5 => ?_)
          · skip
            refine lv_iload_n hx hb dX0_joining_50 rfl (lv_at hl 3 rfl) ?_
            exact W.iret (v := nI d) hx hb hr (fun t ht hW => ⟨_, rfl, (show nI d = iO (hJoin σ a b) from by rw [← hE, show zM σ - d = (zM σ - (d + 1)) + 1 by omega, hJoinFrom, if_pos (by simp [hJn]; omega)]; rfl), ht⟩) (fun q h => absurd h List.not_mem_nil) dX0_joining_51
          · skip
            refine lv_aload_n hx hb dX0_joining_30 rfl (lv_at hl 0 rfl) ?_
            refine va_get (D := D) (ci := 0) (v := .ref (q 3)) (C := RX0) (T := TX0) (N := 9) hx hb hts hin0 hown hZ.1 hP 0 rfl rfl 4 (by decide) hf19 (fun _ h9 => h9) rfl dX0_joining_31 ?_
            refine lv_iload_n hx hb dX0_joining_34 rfl (lv_at hl 3 rfl) ?_
            refine rv_iald hx hb hZ.1 hP 3 1 rfl rfl (r := d) (by omega) (by decide) (v := nI ((zF σ) d)) rfl dX0_joining_35 ?_
            refine lv_iload_n hx hb dX0_joining_36 rfl (lv_at hl 2 rfl) ?_
            refine rv_ne (tgt := 52) hx hb (by omega) (by omega) dX0_joining_37 (by decide) (fun c37_6 => ?_) (fun c37_6 => ?_)
            · skip
              refine lv_iinc (v := nI (d + 1)) (lv' := [(3, .int (nI (d + 1))), (0, .ref (q 0)), (1, .int (nI a)), (2, .int (nI b))]) hx hb dX0_joining_52 hl (k := 3) rfl (nI_add d 1) (by decide) rfl (fun ls hl => ?_)
              refine lv_goto (tgt := 2) hx hb dX0_joining_55 (by decide) ?_
              exact ih2 (d + 1) (by omega) (by omega) (by rw [← hE, show zM σ - d = (zM σ - (d + 1)) + 1 by omega, hJoinFrom, if_neg (by simp [hJn]; omega)]) ls (lv_sub hl [1, 2, 3, 0] rfl)
            · skip
              refine lv_aload_n hx hb dX0_joining_40 rfl (lv_at hl 0 rfl) ?_
              refine va_get (D := D) (ci := 0) (v := .ref (q 4)) (C := RX0) (T := TX0) (N := 9) hx hb hts hin0 hown hZ.1 hP 0 rfl rfl 5 (by decide) hf22 (fun _ h9 => h9) rfl dX0_joining_41 ?_
              refine lv_iload_n hx hb dX0_joining_44 rfl (lv_at hl 3 rfl) ?_
              refine rv_iald hx hb hZ.1 hP 4 1 rfl rfl (r := d) (by omega) (by decide) (v := nI ((zG σ) d)) rfl dX0_joining_45 ?_
              refine lv_iload_n hx hb dX0_joining_46 rfl (lv_at hl 1 rfl) ?_
              refine rv_ne (tgt := 52) hx hb (by omega) (by omega) dX0_joining_47 (by decide) (fun c47_7 => ?_) (fun c47_7 => ?_)
              · skip
                refine lv_iinc (v := nI (d + 1)) (lv' := [(3, .int (nI (d + 1))), (0, .ref (q 0)), (1, .int (nI a)), (2, .int (nI b))]) hx hb dX0_joining_52 hl (k := 3) rfl (nI_add d 1) (by decide) rfl (fun ls hl => ?_)
                refine lv_goto (tgt := 2) hx hb dX0_joining_55 (by decide) ?_
                exact ih2 (d + 1) (by omega) (by omega) (by rw [← hE, show zM σ - d = (zM σ - (d + 1)) + 1 by omega, hJoinFrom, if_neg (by simp [hJn]; omega)]) ls (lv_sub hl [1, 2, 3, 0] rfl)
              · skip
                refine lv_iload_n hx hb dX0_joining_50 rfl (lv_at hl 3 rfl) ?_
                exact W.iret (v := nI d) hx hb hr (fun t ht hW => ⟨_, rfl, (show nI d = iO (hJoin σ a b) from by rw [← hE, show zM σ - d = (zM σ - (d + 1)) + 1 by omega, hJoinFrom, if_pos (by simp [hJn]; omega)]; rfl), ht⟩) (fun q h => absurd h List.not_mem_nil) dX0_joining_51
  exact loop2 (zM σ + 1) 0 (by omega) (by omega) rfl ls (lv_sub hl [1, 2, 3, 0] rfl)

set_option maxHeartbeats 4000000 in
set_option maxRecDepth 100000 in
theorem c_X0_unlockedDoorsAt (l : Launch) (D : va_G) (cZ cI : ClassId) (q : Nat → Nat) (σ : HS)  (r : Nat) (hσ : zOk σ) (hr8 : r < 8) : Met l yX0_unlockedDoorsAt wsX0_unlockedDoorsAt ({ frames := 0, cells := 0, slots := 0, locals := 0 }) (RdP D cZ cI [.ref (q 0), .int (nI r)] (pH cZ cI q σ)) (vp_Si (fun r0 => r0 = nI (hDoors σ r))) 0 0 (fun _ => False) := by
  refine Met.ofW (cc := cX0_unlockedDoorsAt) (maxL := 4) (ret := (some .int)) (by decide) rfl ?_
  intro p e s m args below meth c s₁ B hml hv
  obtain ⟨rfl, hP, hZ⟩ := hv
  have hx := B.exec
  have hb := B.bytes
  have hr := B.returns
  have hts := atoms_spec (ws := wsX0_unlockedDoorsAt) B.pre
  have hown : s.vm.findClass RX0 = some m.cls := findClass_of_methodNamed B.named
  have hlocks := B.notSynchronized
  have hP : va_P D vwCl (pH cZ cI q σ) s.heap := hP
  have hl := lv_entry ([.ref (q 0), .int (nI r)]) (n := 4) (Nat.le_of_ble_eq_true rfl)
  rw [lg_entry_eq]
  generalize (lg_sl ([.ref (q 0), .int (nI r)]) ++ List.replicate (4 - (lg_sl ([.ref (q 0), .int (nI r)])).length) Slot.unset).toArray = ls at hl ⊢
  have hl : lv_has ls 4 [(0, .ref (q 0)), (1, .int (nI r))] := hl
  have hin0 : ∀ w ∈ u_ws RX0 TX0 9, w ∈ wsX0_unlockedDoorsAt := by decide +kernel
  have hf19 := hts (.fieldLink RX0 19 "DoorChase$House" "firstRoom" "[I") (by decide +kernel)
  have hf22 := hts (.fieldLink RX0 22 "DoorChase$House" "secondRoom" "[I") (by decide +kernel)
  have hf31 := hts (.fieldLink RX0 31 "DoorChase$House" "locked" "[Z") (by decide +kernel)
  have hf38 := hts (.fieldLink RX0 38 "DoorChase$House" "doorCount" "I") (by decide +kernel)
  obtain ⟨hσ1, hσ2, hσ3, hσ4, hσ5, hσ6, hσ7⟩ := id hσ
  refine lv_iconst (v := nI 0) hx hb dX0_unlockedDoorsAt_0 (by decide) ?_
  refine lv_istore_n (lv' := [(2, .int (nI 0)), (0, .ref (q 0)), (1, .int (nI r))]) hx hb dX0_unlockedDoorsAt_1 rfl hl (by decide) rfl (fun ls hl => ?_)
  refine lv_iconst (v := nI 0) hx hb dX0_unlockedDoorsAt_2 (by decide) ?_
  refine lv_istore_n (lv' := [(3, .int (nI 0)), (2, .int (nI 0)), (0, .ref (q 0)), (1, .int (nI r))]) hx hb dX0_unlockedDoorsAt_3 rfl hl (by decide) rfl (fun ls hl => ?_)
  have loop4 : ∀ (n : Nat) (d : Nat) (k : Nat), zM σ + 1 ≤ d + n → (d ≤ zM σ) → (k ≤ d) → (hCnt σ r (zM σ - d) d k = hDoors σ r) → ∀ (ls : Array Slot), lv_has ls 4 [(0, .ref (q 0)), (1, .int (nI r)), (2, .int (nI k)), (3, .int (nI d))] → W p l e (headSpec wsX0_unlockedDoorsAt ({ frames := 0, cells := 0, slots := 0, locals := 0 })).room s m ([.ref (q 0), .int (nI r)] : List Value).toArray below meth c s.heap [] 0 0 (MQ below (vp_Si (fun r0 => r0 = nI (hDoors σ r))) ([.ref (q 0), .int (nI r)] : List Value).toArray s 0 0 (fun _ => False)) (F0 m 4 ls []) := by
    intro n
    induction n with
    | zero =>
      intro d k hmeas hd hk hE ls hl
      exact absurd hmeas (by omega)
    | succ n ih4 =>
      intro d k hmeas hd hk hE ls hl
      have hF9 := hσ3 d
      have hG9 := hσ4 d
      refine lv_iload_n hx hb dX0_unlockedDoorsAt_4 rfl (lv_at hl 3 rfl) ?_
      refine lv_aload_n hx hb dX0_unlockedDoorsAt_5 rfl (lv_at hl 0 rfl) ?_
      refine va_get (D := D) (ci := 0) (v := .int (nI (zM σ))) (C := RX0) (T := TX0) (N := 9) hx hb hts hin0 hown hZ.1 hP 0 rfl rfl 3 (by decide) hf38 (fun _ h9 => h9) rfl dX0_unlockedDoorsAt_6 ?_
      refine rv_ge (tgt := 50) hx hb (by omega) (by omega) dX0_unlockedDoorsAt_9 (by decide) (fun c9_1 => ?_) (fun c9_1 => ?_)
      · skip
        refine lv_iload_n hx hb dX0_unlockedDoorsAt_50 rfl (lv_at hl 2 rfl) ?_
        exact W.iret (v := nI k) hx hb hr (fun t ht hW => ⟨_, rfl, (show nI k = nI (hDoors σ r) from by rw [← hE, show zM σ - d = 0 by omega]; rfl), ht⟩) (fun q h => absurd h List.not_mem_nil) dX0_unlockedDoorsAt_51
      · skip
        refine lv_aload_n hx hb dX0_unlockedDoorsAt_12 rfl (lv_at hl 0 rfl) ?_
        refine va_get (D := D) (ci := 0) (v := .ref (q 7)) (C := RX0) (T := TX0) (N := 9) hx hb hts hin0 hown hZ.1 hP 0 rfl rfl 8 (by decide) hf31 (fun _ h9 => h9) rfl dX0_unlockedDoorsAt_13 ?_
        refine lv_iload_n hx hb dX0_unlockedDoorsAt_16 rfl (lv_at hl 3 rfl) ?_
        refine rv_zald hx hb hZ.1 hP 7 0 rfl rfl (r := d) (by omega) (by decide) (v := bI ((zL σ) d)) rfl dX0_unlockedDoorsAt_17 ?_
        refine rv_ifneB (tgt := 44) hx hb dX0_unlockedDoorsAt_18 (by decide) (fun c18_2 => ?_) (fun c18_2 => ?_)
        · skip
          refine lv_iinc (v := nI (d + 1)) (lv' := [(3, .int (nI (d + 1))), (0, .ref (q 0)), (1, .int (nI r)), (2, .int (nI k))]) hx hb dX0_unlockedDoorsAt_44 hl (k := 3) rfl (nI_add d 1) (by decide) rfl (fun ls hl => ?_)
          refine lv_goto (tgt := 4) hx hb dX0_unlockedDoorsAt_47 (by decide) ?_
          exact ih4 (d + 1) k (by omega) (by omega) (by omega) (by rw [← hE, show zM σ - d = (zM σ - (d + 1)) + 1 by omega, hCnt]; split <;> first | rfl | (rename_i h9; exfalso; simp [hAt, c9_1, c18_2] at h9)) ls (lv_sub hl [1, 2, 3, 0] rfl)
        · skip
          refine lv_aload_n hx hb dX0_unlockedDoorsAt_21 rfl (lv_at hl 0 rfl) ?_
          refine va_get (D := D) (ci := 0) (v := .ref (q 3)) (C := RX0) (T := TX0) (N := 9) hx hb hts hin0 hown hZ.1 hP 0 rfl rfl 4 (by decide) hf19 (fun _ h9 => h9) rfl dX0_unlockedDoorsAt_22 ?_
          refine lv_iload_n hx hb dX0_unlockedDoorsAt_25 rfl (lv_at hl 3 rfl) ?_
          refine rv_iald hx hb hZ.1 hP 3 1 rfl rfl (r := d) (by omega) (by decide) (v := nI ((zF σ) d)) rfl dX0_unlockedDoorsAt_26 ?_
          refine lv_iload_n hx hb dX0_unlockedDoorsAt_27 rfl (lv_at hl 1 rfl) ?_
          refine rv_eq (tgt := 41) hx hb (by omega) (by omega) dX0_unlockedDoorsAt_28 (by decide) (fun c28_3 => ?_) (fun c28_3 => ?_)
          · skip
            refine lv_iinc (v := nI (k + 1)) (lv' := [(2, .int (nI (k + 1))), (0, .ref (q 0)), (1, .int (nI r)), (3, .int (nI d))]) hx hb dX0_unlockedDoorsAt_41 hl (k := 2) rfl (nI_add k 1) (by decide) rfl (fun ls hl => ?_)
            refine lv_iinc (v := nI (d + 1)) (lv' := [(3, .int (nI (d + 1))), (2, .int (nI (k + 1))), (0, .ref (q 0)), (1, .int (nI r))]) hx hb dX0_unlockedDoorsAt_44 hl (k := 3) rfl (nI_add d 1) (by decide) rfl (fun ls hl => ?_)
            refine lv_goto (tgt := 4) hx hb dX0_unlockedDoorsAt_47 (by decide) ?_
            exact ih4 (d + 1) (k + 1) (by omega) (by omega) (by omega) (by rw [← hE, show zM σ - d = (zM σ - (d + 1)) + 1 by omega, hCnt]; split <;> first | rfl | (rename_i h9; exfalso; simp [hAt, c9_1, c18_2, c28_3] at h9)) ls (lv_sub hl [2, 3, 1, 0] rfl)
          · skip
            refine lv_aload_n hx hb dX0_unlockedDoorsAt_31 rfl (lv_at hl 0 rfl) ?_
            refine va_get (D := D) (ci := 0) (v := .ref (q 4)) (C := RX0) (T := TX0) (N := 9) hx hb hts hin0 hown hZ.1 hP 0 rfl rfl 5 (by decide) hf22 (fun _ h9 => h9) rfl dX0_unlockedDoorsAt_32 ?_
            refine lv_iload_n hx hb dX0_unlockedDoorsAt_35 rfl (lv_at hl 3 rfl) ?_
            refine rv_iald hx hb hZ.1 hP 4 1 rfl rfl (r := d) (by omega) (by decide) (v := nI ((zG σ) d)) rfl dX0_unlockedDoorsAt_36 ?_
            refine lv_iload_n hx hb dX0_unlockedDoorsAt_37 rfl (lv_at hl 1 rfl) ?_
            refine rv_ne (tgt := 44) hx hb (by omega) (by omega) dX0_unlockedDoorsAt_38 (by decide) (fun c38_4 => ?_) (fun c38_4 => ?_)
            · skip
              refine lv_iinc (v := nI (d + 1)) (lv' := [(3, .int (nI (d + 1))), (0, .ref (q 0)), (1, .int (nI r)), (2, .int (nI k))]) hx hb dX0_unlockedDoorsAt_44 hl (k := 3) rfl (nI_add d 1) (by decide) rfl (fun ls hl => ?_)
              refine lv_goto (tgt := 4) hx hb dX0_unlockedDoorsAt_47 (by decide) ?_
              exact ih4 (d + 1) k (by omega) (by omega) (by omega) (by rw [← hE, show zM σ - d = (zM σ - (d + 1)) + 1 by omega, hCnt]; split <;> first | rfl | (rename_i h9; exfalso; simp [hAt, c9_1, c18_2, c28_3, c38_4] at h9)) ls (lv_sub hl [1, 2, 3, 0] rfl)
            · skip
              refine lv_iinc (v := nI (k + 1)) (lv' := [(2, .int (nI (k + 1))), (0, .ref (q 0)), (1, .int (nI r)), (3, .int (nI d))]) hx hb dX0_unlockedDoorsAt_41 hl (k := 2) rfl (nI_add k 1) (by decide) rfl (fun ls hl => ?_)
              refine lv_iinc (v := nI (d + 1)) (lv' := [(3, .int (nI (d + 1))), (2, .int (nI (k + 1))), (0, .ref (q 0)), (1, .int (nI r))]) hx hb dX0_unlockedDoorsAt_44 hl (k := 3) rfl (nI_add d 1) (by decide) rfl (fun ls hl => ?_)
              refine lv_goto (tgt := 4) hx hb dX0_unlockedDoorsAt_47 (by decide) ?_
              exact ih4 (d + 1) (k + 1) (by omega) (by omega) (by omega) (by rw [← hE, show zM σ - d = (zM σ - (d + 1)) + 1 by omega, hCnt]; split <;> first | rfl | (rename_i h9; exfalso; simp [hAt, c9_1, c18_2, c28_3, c38_4] at h9)) ls (lv_sub hl [2, 3, 1, 0] rfl)
  exact loop4 (zM σ + 1) 0 0 (by omega) (by omega) (by omega) rfl ls (lv_sub hl [2, 3, 1, 0] rfl)

set_option maxHeartbeats 4000000 in
set_option maxRecDepth 100000 in
theorem c_X0_oneDoorFarther (l : Launch) (D : va_G) (cZ cI : ClassId) (q : Nat → Nat) (σ : HS)  (P : Nat → Bool) (hσ : zOk σ) : Met l yX0_oneDoorFarther wsX0_oneDoorFarther ({ frames := 1, cells := 0, slots := 0, locals := 20 }) (RdP D cZ cI [.ref (q 0), .int (sb P)] (pH cZ cI q σ)) (vp_Si (fun r0 => r0 = sb (hFarther σ P))) 0 0 (fun _ => False) := by
  refine Met.ofW (cc := cX0_oneDoorFarther) (maxL := 5) (ret := (some .int)) (by decide) rfl ?_
  intro p e s m args below meth c s₁ B hml hv
  obtain ⟨rfl, hP, hZ⟩ := hv
  have hx := B.exec
  have hb := B.bytes
  have hr := B.returns
  have hts := atoms_spec (ws := wsX0_oneDoorFarther) B.pre
  have hown : s.vm.findClass RX0 = some m.cls := findClass_of_methodNamed B.named
  have hlocks := B.notSynchronized
  have hP : va_P D vwCl (pH cZ cI q σ) s.heap := hP
  have hl := lv_entry ([.ref (q 0), .int (sb P)]) (n := 5) (Nat.le_of_ble_eq_true rfl)
  rw [lg_entry_eq]
  generalize (lg_sl ([.ref (q 0), .int (sb P)]) ++ List.replicate (5 - (lg_sl ([.ref (q 0), .int (sb P)])).length) Slot.unset).toArray = ls at hl ⊢
  have hl : lv_has ls 5 [(0, .ref (q 0)), (1, .int (sb P))] := hl
  have hin0 : ∀ w ∈ u_ws RX0 TX0 9, w ∈ wsX0_oneDoorFarther := by decide +kernel
  have hf19 := hts (.fieldLink RX0 19 "DoorChase$House" "firstRoom" "[I") (by decide +kernel)
  have hf22 := hts (.fieldLink RX0 22 "DoorChase$House" "secondRoom" "[I") (by decide +kernel)
  have hf31 := hts (.fieldLink RX0 31 "DoorChase$House" "locked" "[Z") (by decide +kernel)
  have hf38 := hts (.fieldLink RX0 38 "DoorChase$House" "doorCount" "I") (by decide +kernel)
  obtain ⟨hσ1, hσ2, hσ3, hσ4, hσ5, hσ6, hσ7⟩ := id hσ
  refine lv_iload_n hx hb dX0_oneDoorFarther_0 rfl (lv_at hl 1 rfl) ?_
  refine lv_istore_n (lv' := [(2, .int (sb P)), (0, .ref (q 0)), (1, .int (sb P))]) hx hb dX0_oneDoorFarther_1 rfl hl (by decide) rfl (fun ls hl => ?_)
  refine lv_iconst (v := nI 0) hx hb dX0_oneDoorFarther_2 (by decide) ?_
  refine lv_istore_n (lv' := [(3, .int (nI 0)), (2, .int (sb P)), (0, .ref (q 0)), (1, .int (sb P))]) hx hb dX0_oneDoorFarther_3 rfl hl (by decide) rfl (fun ls hl => ?_)
  have loop4 : ∀ (n : Nat) (d : Nat) (F : Nat → Bool), zM σ + 1 ≤ d + n → (d ≤ zM σ) → (hFar σ P (zM σ - d) d F = hFarther σ P) → ∀ (ls : Array Slot), lv_has ls 5 [(0, .ref (q 0)), (1, .int (sb P)), (2, .int (sb F)), (3, .int (nI d))] → W p l e (headSpec wsX0_oneDoorFarther ({ frames := 1, cells := 0, slots := 0, locals := 20 })).room s m ([.ref (q 0), .int (sb P)] : List Value).toArray below meth c s.heap [] 0 0 (MQ below (vp_Si (fun r0 => r0 = sb (hFarther σ P))) ([.ref (q 0), .int (sb P)] : List Value).toArray s 0 0 (fun _ => False)) (F0 m 4 ls []) := by
    intro n
    induction n with
    | zero =>
      intro d F hmeas hd hE ls hl
      exact absurd hmeas (by omega)
    | succ n ih4 =>
      intro d F hmeas hd hE ls hl
      have hF9 := hσ3 d
      have hG9 := hσ4 d
      refine lv_iload_n hx hb dX0_oneDoorFarther_4 rfl (lv_at hl 3 rfl) ?_
      refine lv_aload_n hx hb dX0_oneDoorFarther_5 rfl (lv_at hl 0 rfl) ?_
      refine va_get (D := D) (ci := 0) (v := .int (nI (zM σ))) (C := RX0) (T := TX0) (N := 9) hx hb hts hin0 hown hZ.1 hP 0 rfl rfl 3 (by decide) hf38 (fun _ h9 => h9) rfl dX0_oneDoorFarther_6 ?_
      refine rv_ge (tgt := 60) hx hb (by omega) (by omega) dX0_oneDoorFarther_9 (by decide) (fun c9_1 => ?_) (fun c9_1 => ?_)
      · skip
        refine lv_iload_n hx hb dX0_oneDoorFarther_60 rfl (lv_at hl 2 rfl) ?_
        exact W.iret (v := sb F) hx hb hr (fun t ht hW => ⟨_, rfl, (show sb F = sb (hFarther σ P) from by rw [← hE, show zM σ - d = 0 by omega]; rfl), ht⟩) (fun q h => absurd h List.not_mem_nil) dX0_oneDoorFarther_61
      · skip
        refine lv_aload_n hx hb dX0_oneDoorFarther_12 rfl (lv_at hl 0 rfl) ?_
        refine va_get (D := D) (ci := 0) (v := .ref (q 3)) (C := RX0) (T := TX0) (N := 9) hx hb hts hin0 hown hZ.1 hP 0 rfl rfl 4 (by decide) hf19 (fun _ h9 => h9) rfl dX0_oneDoorFarther_13 ?_
        refine lv_iload_n hx hb dX0_oneDoorFarther_16 rfl (lv_at hl 3 rfl) ?_
        refine rv_iald hx hb hZ.1 hP 3 1 rfl rfl (r := d) (by omega) (by decide) (v := nI ((zF σ) d)) rfl dX0_oneDoorFarther_17 ?_
        refine vp_callSi (va_runSN (As := [.int (nI ((zF σ) d))]) (rest := []) ⟨hx, hb, hml, hown, hts⟩ (c_X2_bit l D cZ cI   ((zF σ) d) (by first | assumption | omega)) ⟨va_cnB 1 hts gX0_oneDoorFarther_X2_bit_n41 rfl rfl rfl hZ.2.1 (hts (.initialized RX2) (by decide +kernel)) (by decide +kernel) ⟨Nat.le_of_ble_eq_true rfl, Nat.le_of_ble_eq_true rfl⟩, hts (.static yX2_bit) (by decide +kernel), trivial⟩ ⟨RdP_blind, RdP_start (hP.sub (ws' := []) [] rfl) hZ⟩ rfl rfl hl.1 rfl (lv_room (Nat.le_of_ble_eq_true rfl)) dX0_oneDoorFarther_18 ⟨Nat.le_of_ble_eq_true rfl, Nat.le_of_ble_eq_true rfl⟩).run (fun r_2 hr_3 => ?_)
        subst hr_3
        refine rv_top (show _ = sb (fun i => i == ((zF σ) d)) from rfl) ?_
        refine lv_aload_n hx hb dX0_oneDoorFarther_21 rfl (lv_at hl 0 rfl) ?_
        refine va_get (D := D) (ci := 0) (v := .ref (q 4)) (C := RX0) (T := TX0) (N := 9) hx hb hts hin0 hown hZ.1 hP 0 rfl rfl 5 (by decide) hf22 (fun _ h9 => h9) rfl dX0_oneDoorFarther_22 ?_
        refine lv_iload_n hx hb dX0_oneDoorFarther_25 rfl (lv_at hl 3 rfl) ?_
        refine rv_iald hx hb hZ.1 hP 4 1 rfl rfl (r := d) (by omega) (by decide) (v := nI ((zG σ) d)) rfl dX0_oneDoorFarther_26 ?_
        refine vp_callSi (va_runSN (As := [.int (nI ((zG σ) d))]) (rest := [.int (sb (fun i => i == ((zF σ) d)))]) ⟨hx, hb, hml, hown, hts⟩ (c_X2_bit l D cZ cI   ((zG σ) d) (by first | assumption | omega)) ⟨va_cnB 1 hts gX0_oneDoorFarther_X2_bit_n41 rfl rfl rfl hZ.2.1 (hts (.initialized RX2) (by decide +kernel)) (by decide +kernel) ⟨Nat.le_of_ble_eq_true rfl, Nat.le_of_ble_eq_true rfl⟩, hts (.static yX2_bit) (by decide +kernel), trivial⟩ ⟨RdP_blind, RdP_start (hP.sub (ws' := []) [] rfl) hZ⟩ rfl rfl hl.1 rfl (lv_room (Nat.le_of_ble_eq_true rfl)) dX0_oneDoorFarther_27 ⟨Nat.le_of_ble_eq_true rfl, Nat.le_of_ble_eq_true rfl⟩).run (fun r_4 hr_5 => ?_)
        subst hr_5
        refine rv_top (show _ = sb (fun i => i == ((zG σ) d)) from rfl) ?_
        refine rv_orS hx hb dX0_oneDoorFarther_30 ?_
        refine lv_istore (lv' := [(4, .int (sb (fun i => (fun i => i == ((zF σ) d)) i || (fun i => i == ((zG σ) d)) i))), (0, .ref (q 0)), (1, .int (sb P)), (2, .int (sb F)), (3, .int (nI d))]) hx hb dX0_oneDoorFarther_31 hl (by decide) rfl (fun ls hl => ?_)
        refine lv_aload_n hx hb dX0_oneDoorFarther_33 rfl (lv_at hl 1 rfl) ?_
        refine va_get (D := D) (ci := 0) (v := .ref (q 7)) (C := RX0) (T := TX0) (N := 9) hx hb hts hin0 hown hZ.1 hP 0 rfl rfl 8 (by decide) hf31 (fun _ h9 => h9) rfl dX0_oneDoorFarther_34 ?_
        refine lv_iload_n hx hb dX0_oneDoorFarther_37 rfl (lv_at hl 4 rfl) ?_
        refine rv_zald hx hb hZ.1 hP 7 0 rfl rfl (r := d) (by omega) (by decide) (v := bI ((zL σ) d)) rfl dX0_oneDoorFarther_38 ?_
        refine rv_ifneB (tgt := 54) hx hb dX0_oneDoorFarther_39 (by decide) (fun c39_6 => ?_) (fun c39_6 => ?_)
        · skip
          refine lv_iinc (v := nI (d + 1)) (lv' := [(3, .int (nI (d + 1))), (4, .int (sb (fun i => (fun i => i == ((zF σ) d)) i || (fun i => i == ((zG σ) d)) i))), (0, .ref (q 0)), (1, .int (sb P)), (2, .int (sb F))]) hx hb dX0_oneDoorFarther_54 hl (k := 4) rfl (nI_add d 1) (by decide) rfl (fun ls hl => ?_)
          refine lv_goto (tgt := 4) hx hb dX0_oneDoorFarther_57 (by decide) ?_
          exact ih4 (d + 1) F (by omega) (by omega) (by rw [← hE, show zM σ - d = (zM σ - (d + 1)) + 1 by omega, hFar]; first | rw [if_pos (hNear_t (by assumption) hF9 hG9 (by assumption))] | rw [if_neg (hNear_f1 (by assumption))] | rw [if_neg (hNear_f2 hF9 hG9 (by assumption))]) ls (lv_sub hl [2, 3, 4, 0] rfl)
        · skip
          refine lv_iload_n hx hb dX0_oneDoorFarther_42 rfl (lv_at hl 2 rfl) ?_
          refine lv_iload hx hb dX0_oneDoorFarther_43 (lv_at hl 0 rfl) ?_
          refine rv_andS hx hb dX0_oneDoorFarther_45 ?_
          refine rv_ifeqS (tgt := 54) hx hb dX0_oneDoorFarther_46 (by decide) (fun c46_7 => ?_) (fun c46_7 => ?_)
          · skip
            refine lv_iinc (v := nI (d + 1)) (lv' := [(3, .int (nI (d + 1))), (4, .int (sb (fun i => (fun i => i == ((zF σ) d)) i || (fun i => i == ((zG σ) d)) i))), (0, .ref (q 0)), (1, .int (sb P)), (2, .int (sb F))]) hx hb dX0_oneDoorFarther_54 hl (k := 4) rfl (nI_add d 1) (by decide) rfl (fun ls hl => ?_)
            refine lv_goto (tgt := 4) hx hb dX0_oneDoorFarther_57 (by decide) ?_
            exact ih4 (d + 1) F (by omega) (by omega) (by rw [← hE, show zM σ - d = (zM σ - (d + 1)) + 1 by omega, hFar]; first | rw [if_pos (hNear_t (by assumption) hF9 hG9 (by assumption))] | rw [if_neg (hNear_f1 (by assumption))] | rw [if_neg (hNear_f2 hF9 hG9 (by assumption))]) ls (lv_sub hl [2, 3, 4, 0] rfl)
          · skip
            refine lv_iload_n hx hb dX0_oneDoorFarther_49 rfl (lv_at hl 3 rfl) ?_
            refine lv_iload hx hb dX0_oneDoorFarther_50 (lv_at hl 0 rfl) ?_
            refine rv_orS hx hb dX0_oneDoorFarther_52 ?_
            refine lv_istore_n (lv' := [(2, .int (sb (fun i => F i || (fun i => (fun i => i == ((zF σ) d)) i || (fun i => i == ((zG σ) d)) i) i))), (4, .int (sb (fun i => (fun i => i == ((zF σ) d)) i || (fun i => i == ((zG σ) d)) i))), (0, .ref (q 0)), (1, .int (sb P)), (3, .int (nI d))]) hx hb dX0_oneDoorFarther_53 rfl hl (by decide) rfl (fun ls hl => ?_)
            refine lv_iinc (v := nI (d + 1)) (lv' := [(3, .int (nI (d + 1))), (2, .int (sb (fun i => F i || (fun i => (fun i => i == ((zF σ) d)) i || (fun i => i == ((zG σ) d)) i) i))), (4, .int (sb (fun i => (fun i => i == ((zF σ) d)) i || (fun i => i == ((zG σ) d)) i))), (0, .ref (q 0)), (1, .int (sb P))]) hx hb dX0_oneDoorFarther_54 hl (k := 4) rfl (nI_add d 1) (by decide) rfl (fun ls hl => ?_)
            refine lv_goto (tgt := 4) hx hb dX0_oneDoorFarther_57 (by decide) ?_
            exact ih4 (d + 1) (fun i => F i || (fun i => (fun i => i == ((zF σ) d)) i || (fun i => i == ((zG σ) d)) i) i) (by omega) (by omega) (by rw [← hE, show zM σ - d = (zM σ - (d + 1)) + 1 by omega, hFar]; first | rw [if_pos (hNear_t (by assumption) hF9 hG9 (by assumption))] | rw [if_neg (hNear_f1 (by assumption))] | rw [if_neg (hNear_f2 hF9 hG9 (by assumption))]) ls (lv_sub hl [3, 4, 1, 0] rfl)
  exact loop4 (zM σ + 1) 0 P (by omega) (by omega) rfl ls (lv_sub hl [2, 3, 1, 0] rfl)

set_option maxHeartbeats 4000000 in
set_option maxRecDepth 100000 in
theorem c_X0_doorsFrom (l : Launch) (D : va_G) (cZ cI : ClassId) (q : Nat → Nat) (σ : HS)  (a : Nat) (b : Nat) (hσ : zOk σ) (ha : a < 8) (hb8 : b < 8) : Met l yX0_doorsFrom wsX0_doorsFrom ({ frames := 2, cells := 0, slots := 0, locals := 44 }) (RdP D cZ cI [.ref (q 0), .int (nI a), .int (nI b)] (pH cZ cI q σ)) (vp_Si (fun r0 => r0 = iO (hAway σ a b))) 0 0 (fun _ => False) := by
  refine Met.ofW (cc := cX0_doorsFrom) (maxL := 5) (ret := (some .int)) (by decide) rfl ?_
  intro p e s m args below meth c s₁ B hml hv
  obtain ⟨rfl, hP, hZ⟩ := hv
  have hx := B.exec
  have hb := B.bytes
  have hr := B.returns
  have hts := atoms_spec (ws := wsX0_doorsFrom) B.pre
  have hown : s.vm.findClass RX0 = some m.cls := findClass_of_methodNamed B.named
  have hlocks := B.notSynchronized
  have hP : va_P D vwCl (pH cZ cI q σ) s.heap := hP
  have hl := lv_entry ([.ref (q 0), .int (nI a), .int (nI b)]) (n := 5) (Nat.le_of_ble_eq_true rfl)
  rw [lg_entry_eq]
  generalize (lg_sl ([.ref (q 0), .int (nI a), .int (nI b)]) ++ List.replicate (5 - (lg_sl ([.ref (q 0), .int (nI a), .int (nI b)])).length) Slot.unset).toArray = ls at hl ⊢
  have hl : lv_has ls 5 [(0, .ref (q 0)), (1, .int (nI a)), (2, .int (nI b))] := hl
  obtain ⟨hσ1, hσ2, hσ3, hσ4, hσ5, hσ6, hσ7⟩ := id hσ
  refine lv_iload_n hx hb dX0_doorsFrom_0 rfl (lv_at hl 1 rfl) ?_
  refine vp_callSi (va_runSN (As := [.int (nI a)]) (rest := []) ⟨hx, hb, hml, hown, hts⟩ (c_X2_bit l D cZ cI   a (by first | assumption | omega)) ⟨va_cnB 1 hts gX0_doorsFrom_X2_bit_n41 rfl rfl rfl hZ.2.1 (hts (.initialized RX2) (by decide +kernel)) (by decide +kernel) ⟨Nat.le_of_ble_eq_true rfl, Nat.le_of_ble_eq_true rfl⟩, hts (.static yX2_bit) (by decide +kernel), trivial⟩ ⟨RdP_blind, RdP_start (hP.sub (ws' := []) [] rfl) hZ⟩ rfl rfl hl.1 rfl (lv_room (Nat.le_of_ble_eq_true rfl)) dX0_doorsFrom_1 ⟨Nat.le_of_ble_eq_true rfl, Nat.le_of_ble_eq_true rfl⟩).run (fun r_1 hr_2 => ?_)
  subst hr_2
  refine rv_top (show _ = sb (fun i => i == a) from rfl) ?_
  refine lv_istore_n (lv' := [(3, .int (sb (fun i => i == a))), (0, .ref (q 0)), (1, .int (nI a)), (2, .int (nI b))]) hx hb dX0_doorsFrom_4 rfl hl (by decide) rfl (fun ls hl => ?_)
  refine lv_iconst (v := nI 0) hx hb dX0_doorsFrom_5 (by decide) ?_
  refine lv_istore (lv' := [(4, .int (nI 0)), (3, .int (sb (fun i => i == a))), (0, .ref (q 0)), (1, .int (nI a)), (2, .int (nI b))]) hx hb dX0_doorsFrom_6 hl (by decide) rfl (fun ls hl => ?_)
  have loop8 : ∀ (n : Nat) (k : Nat) (F : Nat → Bool), 8 + 1 ≤ k + n → (k ≤ 8) → (hDist σ b (8 - k) k F = hAway σ a b) → ∀ (ls : Array Slot), lv_has ls 5 [(0, .ref (q 0)), (1, .int (nI a)), (2, .int (nI b)), (3, .int (sb F)), (4, .int (nI k))] → W p l e (headSpec wsX0_doorsFrom ({ frames := 2, cells := 0, slots := 0, locals := 44 })).room s m ([.ref (q 0), .int (nI a), .int (nI b)] : List Value).toArray below meth c s.heap [] 0 0 (MQ below (vp_Si (fun r0 => r0 = iO (hAway σ a b))) ([.ref (q 0), .int (nI a), .int (nI b)] : List Value).toArray s 0 0 (fun _ => False)) (F0 m 8 ls []) := by
    intro n
    induction n with
    | zero =>
      intro k F hmeas hk hE ls hl
      exact absurd hmeas (by omega)
    | succ n ih8 =>
      intro k F hmeas hk hE ls hl
      refine lv_iload hx hb dX0_doorsFrom_8 (lv_at hl 4 rfl) ?_
      refine lv_bipush (v := nI 8) hx hb dX0_doorsFrom_10 (by decide) ?_
      refine rv_ge (tgt := 38) hx hb (by omega) (by omega) dX0_doorsFrom_12 (by decide) (fun c12_3 => ?_) (fun c12_3 => ?_)
      · skip
        refine lv_iconst (v := (-1)) hx hb dX0_doorsFrom_38 (by decide) ?_
        exact W.iret (v := (-1)) hx hb hr (fun t ht hW => ⟨_, rfl, (show (-1) = iO (hAway σ a b) from by rw [← hE, show 8 - k = 0 by omega]; rfl), ht⟩) (fun q h => absurd h List.not_mem_nil) dX0_doorsFrom_39
      · skip
        refine lv_iload_n hx hb dX0_doorsFrom_15 rfl (lv_at hl 3 rfl) ?_
        refine lv_iload_n hx hb dX0_doorsFrom_16 rfl (lv_at hl 2 rfl) ?_
        refine vp_callSi (va_runSN (As := [.int (sb F), .int (nI b)]) (rest := []) ⟨hx, hb, hml, hown, hts⟩ (c_X2_holds l D cZ cI   F b (by first | assumption | omega)) ⟨va_cnB 2 hts gX0_doorsFrom_X2_holds_n45 rfl rfl rfl hZ.2.2.1 (hts (.initialized RX2) (by decide +kernel)) (by decide +kernel) ⟨Nat.le_of_ble_eq_true rfl, Nat.le_of_ble_eq_true rfl⟩, hts (.static yX2_holds) (by decide +kernel), trivial⟩ ⟨RdP_blind, RdP_start (hP.sub (ws' := []) [] rfl) hZ⟩ rfl rfl hl.1 rfl (lv_room (Nat.le_of_ble_eq_true rfl)) dX0_doorsFrom_17 ⟨Nat.le_of_ble_eq_true rfl, Nat.le_of_ble_eq_true rfl⟩).run (fun r_4 hr_5 => ?_)
        subst hr_5
        refine rv_top (show _ = bI (F b) from rfl) ?_
        refine rv_ifeqB (tgt := 26) hx hb dX0_doorsFrom_20 (by decide) (fun c20_6 => ?_) (fun c20_6 => ?_)
        · skip
          refine lv_aload_n hx hb dX0_doorsFrom_26 rfl (lv_at hl 0 rfl) ?_
          refine lv_iload_n hx hb dX0_doorsFrom_27 rfl (lv_at hl 3 rfl) ?_
          refine vp_callSi (va_runV (As := [.int (sb F)]) (rest := []) ⟨hx, hb, hml, hown, hts⟩ (c_X0_oneDoorFarther l D cZ cI q σ  F (by first | assumption | omega)) (cwV 1 hts gX0_doorsFrom_X0_oneDoorFarther rfl rfl rfl (by decide +kernel) ⟨Nat.le_of_ble_eq_true rfl, Nat.le_of_ble_eq_true rfl⟩) ⟨RdP_blind, va_recv hZ.1 hP (ci := 0) (q0 := 0) rfl rfl, RdP_start (hP.sub (ws' := pH cZ cI q σ) [0, 1, 2, 3, 4, 5, 6, 7] rfl) hZ⟩ rfl rfl hl.1 rfl (lv_room (Nat.le_of_ble_eq_true rfl)) dX0_doorsFrom_28 ⟨Nat.le_of_ble_eq_true rfl, Nat.le_of_ble_eq_true rfl⟩).run (fun r_7 hr_8 => ?_)
          subst hr_8
          refine rv_top (show _ = sb (hFarther σ F) from rfl) ?_
          refine lv_istore_n (lv' := [(3, .int (sb (hFarther σ F))), (0, .ref (q 0)), (1, .int (nI a)), (2, .int (nI b)), (4, .int (nI k))]) hx hb dX0_doorsFrom_31 rfl hl (by decide) rfl (fun ls hl => ?_)
          refine lv_iinc (v := nI (k + 1)) (lv' := [(4, .int (nI (k + 1))), (3, .int (sb (hFarther σ F))), (0, .ref (q 0)), (1, .int (nI a)), (2, .int (nI b))]) hx hb dX0_doorsFrom_32 hl (k := 4) rfl (nI_add k 1) (by decide) rfl (fun ls hl => ?_)
          refine lv_goto (tgt := 8) hx hb dX0_doorsFrom_35 (by decide) ?_
          exact ih8 (k + 1) (hFarther σ F) (by omega) (by omega) (by rw [← hE, show 8 - k = (8 - (k + 1)) + 1 by omega, hDist, if_neg (by simp [c12_3, c20_6]; done)]) ls (lv_sub hl [2, 3, 4, 1, 0] rfl)
        · skip
          refine lv_iload hx hb dX0_doorsFrom_23 (lv_at hl 4 rfl) ?_
          exact W.iret (v := nI k) hx hb hr (fun t ht hW => ⟨_, rfl, (show nI k = iO (hAway σ a b) from by rw [← hE, show 8 - k = (8 - (k + 1)) + 1 by omega, hDist, if_pos (by simp [c12_3, c20_6])]; rfl), ht⟩) (fun q h => absurd h List.not_mem_nil) dX0_doorsFrom_25
  exact loop8 (8 + 1) 0 (fun i => i == a) (by omega) (by omega) rfl ls (lv_sub hl [2, 3, 4, 1, 0] rfl)

set_option maxHeartbeats 4000000 in
set_option maxRecDepth 100000 in
theorem c_X1_canGo (l : Launch) (D : va_G) (cZ cI : ClassId) (o : Nat → Nat) (q : Nat → Nat) (ω : OS) (σ : HS)  (ph : Nat) (x : Nat) (y : Nat) (hp : ph < 12) (hx8 : x < 8) (hy8 : y < 8) : Met l yX1_canGo wsX1_canGo ({ frames := 1, cells := 0, slots := 0, locals := 21 }) (RdP D cZ cI [.ref (o 0), .int (nI ph), .int (nI x), .int (nI y)] (pO cZ cI o q ω σ)) (vp_Si (fun r0 => r0 = bI (oW ω ph x y))) 0 0 (fun _ => False) := by
  refine Met.ofW (cc := cX1_canGo) (maxL := 4) (ret := (some .boolean)) (by decide) rfl ?_
  intro p e s m args below meth c s₁ B hml hv
  obtain ⟨rfl, hP, hZ⟩ := hv
  have hx := B.exec
  have hb := B.bytes
  have hr := B.returns
  have hts := atoms_spec (ws := wsX1_canGo) B.pre
  have hown : s.vm.findClass RX1 = some m.cls := findClass_of_methodNamed B.named
  have hlocks := B.notSynchronized
  have hP : va_P D vwCl (pO cZ cI o q ω σ) s.heap := hP
  have hl := lv_entry ([.ref (o 0), .int (nI ph), .int (nI x), .int (nI y)]) (n := 4) (Nat.le_of_ble_eq_true rfl)
  rw [lg_entry_eq]
  generalize (lg_sl ([.ref (o 0), .int (nI ph), .int (nI x), .int (nI y)]) ++ List.replicate (4 - (lg_sl ([.ref (o 0), .int (nI ph), .int (nI x), .int (nI y)])).length) Slot.unset).toArray = ls at hl ⊢
  have hl : lv_has ls 4 [(0, .ref (o 0)), (1, .int (nI ph)), (2, .int (nI x)), (3, .int (nI y))] := hl
  have hin1 : ∀ w ∈ u_ws RX1 TX1 4, w ∈ wsX1_canGo := by decide +kernel
  have hf11 := hts (.fieldLink RX1 11 "DoorChase$Outlook" "ways" "[I") (by decide +kernel)
  refine lv_aload_n hx hb dX1_canGo_0 rfl (lv_at hl 0 rfl) ?_
  refine va_get (D := D) (ci := 1) (v := .ref (o 1)) (C := RX1) (T := TX1) (N := 4) hx hb hts hin1 hown hZ.1 hP 0 rfl rfl 0 (by decide) hf11 (fun _ h9 => h9) rfl dX1_canGo_1 ?_
  refine lv_iload_n hx hb dX1_canGo_4 rfl (lv_at hl 1 rfl) ?_
  refine lv_iload_n hx hb dX1_canGo_5 rfl (lv_at hl 2 rfl) ?_
  refine vp_callSi (va_runS (As := [.int (nI ph), .int (nI x)]) (rest := [.ref (o 1)]) ⟨hx, hb, hml, hown, hts⟩ (c_X1_placeOf l D cZ cI   ph x ) (va_cwS 2 hts gX1_canGo_X1_placeOf rfl rfl rfl (by decide +kernel) ⟨Nat.le_of_ble_eq_true rfl, Nat.le_of_ble_eq_true rfl⟩) ⟨RdP_blind, RdP_start (hP.sub (ws' := []) [] rfl) hZ⟩ rfl rfl hl.1 rfl (lv_room (Nat.le_of_ble_eq_true rfl)) dX1_canGo_6 ⟨Nat.le_of_ble_eq_true rfl, Nat.le_of_ble_eq_true rfl⟩).run (fun r_1 hr_2 => ?_)
  subst hr_2
  refine rv_top (show _ = nI (ph * 8 + x) from rfl) ?_
  refine rv_iald hx hb hZ.1 hP 1 1 rfl rfl (r := ph * 8 + x) (by omega) (by decide) (v := sb ((oW ω) ph x)) (encW_at _ ph (by omega)) dX1_canGo_9 ?_
  refine lv_iload_n hx hb dX1_canGo_10 rfl (lv_at hl 3 rfl) ?_
  refine vp_callSi (va_runSN (As := [.int (sb ((oW ω) ph x)), .int (nI y)]) (rest := []) ⟨hx, hb, hml, hown, hts⟩ (c_X2_holds l D cZ cI   ((oW ω) ph x) y (by first | assumption | omega)) ⟨va_cnB 2 hts gX1_canGo_X2_holds_n28 rfl rfl rfl hZ.2.2.2.1 (hts (.initialized RX2) (by decide +kernel)) (by decide +kernel) ⟨Nat.le_of_ble_eq_true rfl, Nat.le_of_ble_eq_true rfl⟩, hts (.static yX2_holds) (by decide +kernel), trivial⟩ ⟨RdP_blind, RdP_start (hP.sub (ws' := []) [] rfl) hZ⟩ rfl rfl hl.1 rfl (lv_room (Nat.le_of_ble_eq_true rfl)) dX1_canGo_11 ⟨Nat.le_of_ble_eq_true rfl, Nat.le_of_ble_eq_true rfl⟩).run (fun r_3 hr_4 => ?_)
  subst hr_4
  refine rv_top (show _ = bI (((oW ω) ph x) y) from rfl) ?_
  exact W.zret (v := bI (((oW ω) ph x) y)) hx hb hr (nr_bI _) (fun t ht hW => ⟨_, rfl, rfl, ht⟩) (fun q h => absurd h List.not_mem_nil) dX1_canGo_14

set_option maxHeartbeats 4000000 in
set_option maxRecDepth 100000 in
theorem c_X1_turnsToCatchFrom (l : Launch) (D : va_G) (cZ cI : ClassId) (o : Nat → Nat) (q : Nat → Nat) (ω : OS) (σ : HS)  (ph : Nat) (x : Nat) (y : Nat) (hp : ph < 12) (hx8 : x < 8) (hy8 : y < 8) : Met l yX1_turnsToCatchFrom wsX1_turnsToCatchFrom ({ frames := 1, cells := 0, slots := 0, locals := 21 }) (RdP D cZ cI [.ref (o 0), .int (nI ph), .int (nI x), .int (nI y)] (pO cZ cI o q ω σ)) (vp_Si (fun r0 => r0 = iO (oT ω ph x y))) 0 0 (fun _ => False) := by
  refine Met.ofW (cc := cX1_turnsToCatchFrom) (maxL := 4) (ret := (some .int)) (by decide) rfl ?_
  intro p e s m args below meth c s₁ B hml hv
  obtain ⟨rfl, hP, hZ⟩ := hv
  have hx := B.exec
  have hb := B.bytes
  have hr := B.returns
  have hts := atoms_spec (ws := wsX1_turnsToCatchFrom) B.pre
  have hown : s.vm.findClass RX1 = some m.cls := findClass_of_methodNamed B.named
  have hlocks := B.notSynchronized
  have hP : va_P D vwCl (pO cZ cI o q ω σ) s.heap := hP
  have hl := lv_entry ([.ref (o 0), .int (nI ph), .int (nI x), .int (nI y)]) (n := 4) (Nat.le_of_ble_eq_true rfl)
  rw [lg_entry_eq]
  generalize (lg_sl ([.ref (o 0), .int (nI ph), .int (nI x), .int (nI y)]) ++ List.replicate (4 - (lg_sl ([.ref (o 0), .int (nI ph), .int (nI x), .int (nI y)])).length) Slot.unset).toArray = ls at hl ⊢
  have hl : lv_has ls 4 [(0, .ref (o 0)), (1, .int (nI ph)), (2, .int (nI x)), (3, .int (nI y))] := hl
  have hin1 : ∀ w ∈ u_ws RX1 TX1 4, w ∈ wsX1_turnsToCatchFrom := by decide +kernel
  have hf21 := hts (.fieldLink RX1 21 "DoorChase$Outlook" "turnsOfState" "[I") (by decide +kernel)
  refine lv_aload_n hx hb dX1_turnsToCatchFrom_0 rfl (lv_at hl 0 rfl) ?_
  refine va_get (D := D) (ci := 1) (v := .ref (o 4)) (C := RX1) (T := TX1) (N := 4) hx hb hts hin1 hown hZ.1 hP 0 rfl rfl 3 (by decide) hf21 (fun _ h9 => h9) rfl dX1_turnsToCatchFrom_1 ?_
  refine lv_iload_n hx hb dX1_turnsToCatchFrom_4 rfl (lv_at hl 1 rfl) ?_
  refine lv_iload_n hx hb dX1_turnsToCatchFrom_5 rfl (lv_at hl 2 rfl) ?_
  refine vp_callSi (va_runS (As := [.int (nI ph), .int (nI x)]) (rest := [.ref (o 4)]) ⟨hx, hb, hml, hown, hts⟩ (c_X1_placeOf l D cZ cI   ph x ) (va_cwS 2 hts gX1_turnsToCatchFrom_X1_placeOf rfl rfl rfl (by decide +kernel) ⟨Nat.le_of_ble_eq_true rfl, Nat.le_of_ble_eq_true rfl⟩) ⟨RdP_blind, RdP_start (hP.sub (ws' := []) [] rfl) hZ⟩ rfl rfl hl.1 rfl (lv_room (Nat.le_of_ble_eq_true rfl)) dX1_turnsToCatchFrom_6 ⟨Nat.le_of_ble_eq_true rfl, Nat.le_of_ble_eq_true rfl⟩).run (fun r_1 hr_2 => ?_)
  subst hr_2
  refine rv_top (show _ = nI (ph * 8 + x) from rfl) ?_
  refine lv_bipush (v := nI 8) hx hb dX1_turnsToCatchFrom_9 (by decide) ?_
  refine rv_mul hx hb dX1_turnsToCatchFrom_11 ?_
  refine lv_iload_n hx hb dX1_turnsToCatchFrom_12 rfl (lv_at hl 3 rfl) ?_
  refine rv_add hx hb dX1_turnsToCatchFrom_13 ?_
  refine rv_iald hx hb hZ.1 hP 4 1 rfl rfl (r := (ph * 8 + x) * 8 + y) (by omega) (by decide) (v := iO ((oT ω) ph x y)) (encT_at _ ph (by omega) (by omega)) dX1_turnsToCatchFrom_14 ?_
  exact W.iret (v := iO ((oT ω) ph x y)) hx hb hr (fun t ht hW => ⟨_, rfl, rfl, ht⟩) (fun q h => absurd h List.not_mem_nil) dX1_turnsToCatchFrom_15

set_option maxHeartbeats 4000000 in
set_option maxRecDepth 100000 in
theorem c_X1_sureIfCatGoes (l : Launch) (D : va_G) (cZ cI : ClassId) (o : Nat → Nat) (q : Nat → Nat) (ω : OS) (σ : HS)  (ph : Nat) (x : Nat) (hp : ph < 12) (hx8 : x < 8) : Met l yX1_sureIfCatGoes wsX1_sureIfCatGoes ({ frames := 1, cells := 0, slots := 0, locals := 21 }) (RdP D cZ cI [.ref (o 0), .int (nI ph), .int (nI x)] (pO cZ cI o q ω σ)) (vp_Si (fun r0 => r0 = sb (oCat (oW ω) (oB ω) ph x))) 0 0 (fun _ => False) := by
  refine Met.ofW (cc := cX1_sureIfCatGoes) (maxL := 7) (ret := (some .int)) (by decide) rfl ?_
  intro p e s m args below meth c s₁ B hml hv
  obtain ⟨rfl, hP, hZ⟩ := hv
  have hx := B.exec
  have hb := B.bytes
  have hr := B.returns
  have hts := atoms_spec (ws := wsX1_sureIfCatGoes) B.pre
  have hown : s.vm.findClass RX1 = some m.cls := findClass_of_methodNamed B.named
  have hlocks := B.notSynchronized
  have hP : va_P D vwCl (pO cZ cI o q ω σ) s.heap := hP
  have hl := lv_entry ([.ref (o 0), .int (nI ph), .int (nI x)]) (n := 7) (Nat.le_of_ble_eq_true rfl)
  rw [lg_entry_eq]
  generalize (lg_sl ([.ref (o 0), .int (nI ph), .int (nI x)]) ++ List.replicate (7 - (lg_sl ([.ref (o 0), .int (nI ph), .int (nI x)])).length) Slot.unset).toArray = ls at hl ⊢
  have hl : lv_has ls 7 [(0, .ref (o 0)), (1, .int (nI ph)), (2, .int (nI x))] := hl
  have hin1 : ∀ w ∈ u_ws RX1 TX1 4, w ∈ wsX1_sureIfCatGoes := by decide +kernel
  have hf11 := hts (.fieldLink RX1 11 "DoorChase$Outlook" "ways" "[I") (by decide +kernel)
  have hf18 := hts (.fieldLink RX1 18 "DoorChase$Outlook" "sureBefore" "[I") (by decide +kernel)
  have hnx : nextP ph < 12 := nextP_lt hp
  refine lv_iload_n hx hb dX1_sureIfCatGoes_0 rfl (lv_at hl 1 rfl) ?_
  refine vp_callSi (va_runS (As := [.int (nI ph)]) (rest := []) ⟨hx, hb, hml, hown, hts⟩ (c_X1_phaseBehind l D cZ cI   ph (by first | assumption | omega)) (va_cwS 1 hts gX1_sureIfCatGoes_X1_phaseBehind rfl rfl rfl (by decide +kernel) ⟨Nat.le_of_ble_eq_true rfl, Nat.le_of_ble_eq_true rfl⟩) ⟨RdP_blind, RdP_start (hP.sub (ws' := []) [] rfl) hZ⟩ rfl rfl hl.1 rfl (lv_room (Nat.le_of_ble_eq_true rfl)) dX1_sureIfCatGoes_1 ⟨Nat.le_of_ble_eq_true rfl, Nat.le_of_ble_eq_true rfl⟩).run (fun r_1 hr_2 => ?_)
  subst hr_2
  refine rv_top (show _ = nI (nextP ph) from rfl) ?_
  refine lv_istore_n (lv' := [(3, .int (nI (nextP ph))), (0, .ref (o 0)), (1, .int (nI ph)), (2, .int (nI x))]) hx hb dX1_sureIfCatGoes_4 rfl hl (by decide) rfl (fun ls hl => ?_)
  refine lv_aload_n hx hb dX1_sureIfCatGoes_5 rfl (lv_at hl 1 rfl) ?_
  refine va_get (D := D) (ci := 1) (v := .ref (o 1)) (C := RX1) (T := TX1) (N := 4) hx hb hts hin1 hown hZ.1 hP 0 rfl rfl 0 (by decide) hf11 (fun _ h9 => h9) rfl dX1_sureIfCatGoes_6 ?_
  refine lv_iload_n hx hb dX1_sureIfCatGoes_9 rfl (lv_at hl 2 rfl) ?_
  refine lv_iload_n hx hb dX1_sureIfCatGoes_10 rfl (lv_at hl 3 rfl) ?_
  refine vp_callSi (va_runS (As := [.int (nI ph), .int (nI x)]) (rest := [.ref (o 1)]) ⟨hx, hb, hml, hown, hts⟩ (c_X1_placeOf l D cZ cI   ph x ) (va_cwS 2 hts gX1_sureIfCatGoes_X1_placeOf rfl rfl rfl (by decide +kernel) ⟨Nat.le_of_ble_eq_true rfl, Nat.le_of_ble_eq_true rfl⟩) ⟨RdP_blind, RdP_start (hP.sub (ws' := []) [] rfl) hZ⟩ rfl rfl hl.1 rfl (lv_room (Nat.le_of_ble_eq_true rfl)) dX1_sureIfCatGoes_11 ⟨Nat.le_of_ble_eq_true rfl, Nat.le_of_ble_eq_true rfl⟩).run (fun r_3 hr_4 => ?_)
  subst hr_4
  refine rv_top (show _ = nI (ph * 8 + x) from rfl) ?_
  refine rv_iald hx hb hZ.1 hP 1 1 rfl rfl (r := ph * 8 + x) (by omega) (by decide) (v := sb ((oW ω) ph x)) (encW_at _ ph (by omega)) dX1_sureIfCatGoes_14 ?_
  refine lv_istore (lv' := [(4, .int (sb ((oW ω) ph x))), (3, .int (nI (nextP ph))), (0, .ref (o 0)), (1, .int (nI ph)), (2, .int (nI x))]) hx hb dX1_sureIfCatGoes_15 hl (by decide) rfl (fun ls hl => ?_)
  refine lv_iconst (v := nI 0) hx hb dX1_sureIfCatGoes_17 (by decide) ?_
  refine rv_top (show nI 0 = sb (fun _ => false) from sb_0.symm) ?_
  refine lv_istore (lv' := [(5, .int (sb (fun _ => false))), (4, .int (sb ((oW ω) ph x))), (3, .int (nI (nextP ph))), (0, .ref (o 0)), (1, .int (nI ph)), (2, .int (nI x))]) hx hb dX1_sureIfCatGoes_18 hl (by decide) rfl (fun ls hl => ?_)
  refine lv_iconst (v := nI 0) hx hb dX1_sureIfCatGoes_20 (by decide) ?_
  refine lv_istore (lv' := [(6, .int (nI 0)), (5, .int (sb (fun _ => false))), (4, .int (sb ((oW ω) ph x))), (3, .int (nI (nextP ph))), (0, .ref (o 0)), (1, .int (nI ph)), (2, .int (nI x))]) hx hb dX1_sureIfCatGoes_21 hl (by decide) rfl (fun ls hl => ?_)
  have loop23 : ∀ (n : Nat) (r : Nat) (F : Nat → Bool), 8 + 1 ≤ r + n → (r ≤ 8) → (oCatL (oW ω) (oB ω) ph x (8 - r) r F = oCat (oW ω) (oB ω) ph x) → ∀ (ls : Array Slot), lv_has ls 7 [(0, .ref (o 0)), (1, .int (nI ph)), (2, .int (nI x)), (3, .int (nI (nextP ph))), (4, .int (sb ((oW ω) ph x))), (5, .int (sb F)), (6, .int (nI r))] → W p l e (headSpec wsX1_sureIfCatGoes ({ frames := 1, cells := 0, slots := 0, locals := 21 })).room s m ([.ref (o 0), .int (nI ph), .int (nI x)] : List Value).toArray below meth c s.heap [] 0 0 (MQ below (vp_Si (fun r0 => r0 = sb (oCat (oW ω) (oB ω) ph x))) ([.ref (o 0), .int (nI ph), .int (nI x)] : List Value).toArray s 0 0 (fun _ => False)) (F0 m 23 ls []) := by
    intro n
    induction n with
    | zero =>
      intro r F hmeas hr8 hE ls hl
      exact absurd hmeas (by omega)
    | succ n ih23 =>
      intro r F hmeas hr8 hE ls hl
      refine lv_iload hx hb dX1_sureIfCatGoes_23 (lv_at hl 6 rfl) ?_
      refine lv_bipush (v := nI 8) hx hb dX1_sureIfCatGoes_25 (by decide) ?_
      refine rv_ge (tgt := 62) hx hb (by omega) (by omega) dX1_sureIfCatGoes_27 (by decide) (fun c27_5 => ?_) (fun c27_5 => ?_)
      · skip
        refine lv_iload hx hb dX1_sureIfCatGoes_62 (lv_at hl 5 rfl) ?_
        exact W.iret (v := sb F) hx hb hr (fun t ht hW => ⟨_, rfl, (show sb F = sb (oCat (oW ω) (oB ω) ph x) from by rw [← hE, show 8 - r = 0 by omega]; rfl), ht⟩) (fun q h => absurd h List.not_mem_nil) dX1_sureIfCatGoes_64
      · skip
        refine lv_iload hx hb dX1_sureIfCatGoes_30 (lv_at hl 4 rfl) ?_
        refine lv_iload hx hb dX1_sureIfCatGoes_32 (lv_at hl 6 rfl) ?_
        refine vp_callSi (va_runSN (As := [.int (sb ((oW ω) ph x)), .int (nI r)]) (rest := []) ⟨hx, hb, hml, hown, hts⟩ (c_X2_holds l D cZ cI   ((oW ω) ph x) r (by first | assumption | omega)) ⟨va_cnB 2 hts gX1_sureIfCatGoes_X2_holds_n28 rfl rfl rfl hZ.2.2.2.1 (hts (.initialized RX2) (by decide +kernel)) (by decide +kernel) ⟨Nat.le_of_ble_eq_true rfl, Nat.le_of_ble_eq_true rfl⟩, hts (.static yX2_holds) (by decide +kernel), trivial⟩ ⟨RdP_blind, RdP_start (hP.sub (ws' := []) [] rfl) hZ⟩ rfl rfl hl.1 rfl (lv_room (Nat.le_of_ble_eq_true rfl)) dX1_sureIfCatGoes_34 ⟨Nat.le_of_ble_eq_true rfl, Nat.le_of_ble_eq_true rfl⟩).run (fun r_6 hr_7 => ?_)
        subst hr_7
        refine rv_top (show _ = bI (((oW ω) ph x) r) from rfl) ?_
        refine rv_ifeqB (tgt := 56) hx hb dX1_sureIfCatGoes_37 (by decide) (fun c37_8 => ?_) (fun c37_8 => ?_)
        · skip
          refine lv_iinc (v := nI (r + 1)) (lv' := [(6, .int (nI (r + 1))), (0, .ref (o 0)), (1, .int (nI ph)), (2, .int (nI x)), (3, .int (nI (nextP ph))), (4, .int (sb ((oW ω) ph x))), (5, .int (sb F))]) hx hb dX1_sureIfCatGoes_56 hl (k := 6) rfl (nI_add r 1) (by decide) rfl (fun ls hl => ?_)
          refine lv_goto (tgt := 23) hx hb dX1_sureIfCatGoes_59 (by decide) ?_
          exact ih23 (r + 1) F (by omega) (by omega) (by rw [← hE, show 8 - r = (8 - (r + 1)) + 1 by omega, oCatL]; first | rw [if_pos (by assumption)] | rw [if_neg (by simp [c27_5, c37_8]; done)]) ls (lv_sub hl [1, 2, 3, 4, 5, 6, 0] rfl)
        · skip
          refine lv_iload hx hb dX1_sureIfCatGoes_40 (lv_at hl 5 rfl) ?_
          refine lv_aload_n hx hb dX1_sureIfCatGoes_42 rfl (lv_at hl 0 rfl) ?_
          refine va_get (D := D) (ci := 1) (v := .ref (o 3)) (C := RX1) (T := TX1) (N := 4) hx hb hts hin1 hown hZ.1 hP 0 rfl rfl 2 (by decide) hf18 (fun _ h9 => h9) rfl dX1_sureIfCatGoes_43 ?_
          refine lv_iload_n hx hb dX1_sureIfCatGoes_46 rfl (lv_at hl 3 rfl) ?_
          refine lv_iload hx hb dX1_sureIfCatGoes_47 (lv_at hl 6 rfl) ?_
          refine vp_callSi (va_runS (As := [.int (nI (nextP ph)), .int (nI r)]) (rest := [.ref (o 3), .int (sb F)]) ⟨hx, hb, hml, hown, hts⟩ (c_X1_placeOf l D cZ cI   (nextP ph) r ) (va_cwS 2 hts gX1_sureIfCatGoes_X1_placeOf rfl rfl rfl (by decide +kernel) ⟨Nat.le_of_ble_eq_true rfl, Nat.le_of_ble_eq_true rfl⟩) ⟨RdP_blind, RdP_start (hP.sub (ws' := []) [] rfl) hZ⟩ rfl rfl hl.1 rfl (lv_room (Nat.le_of_ble_eq_true rfl)) dX1_sureIfCatGoes_49 ⟨Nat.le_of_ble_eq_true rfl, Nat.le_of_ble_eq_true rfl⟩).run (fun r_9 hr_10 => ?_)
          subst hr_10
          refine rv_top (show _ = nI ((nextP ph) * 8 + r) from rfl) ?_
          refine rv_iald hx hb hZ.1 hP 3 1 rfl rfl (r := (nextP ph) * 8 + r) (by omega) (by decide) (v := sb ((oB ω) (nextP ph) r)) (encW_at _ (nextP ph) (by omega)) dX1_sureIfCatGoes_52 ?_
          refine rv_orS hx hb dX1_sureIfCatGoes_53 ?_
          refine lv_istore (lv' := [(5, .int (sb (fun i => F i || ((oB ω) (nextP ph) r) i))), (0, .ref (o 0)), (1, .int (nI ph)), (2, .int (nI x)), (3, .int (nI (nextP ph))), (4, .int (sb ((oW ω) ph x))), (6, .int (nI r))]) hx hb dX1_sureIfCatGoes_54 hl (by decide) rfl (fun ls hl => ?_)
          refine lv_iinc (v := nI (r + 1)) (lv' := [(6, .int (nI (r + 1))), (5, .int (sb (fun i => F i || ((oB ω) (nextP ph) r) i))), (0, .ref (o 0)), (1, .int (nI ph)), (2, .int (nI x)), (3, .int (nI (nextP ph))), (4, .int (sb ((oW ω) ph x)))]) hx hb dX1_sureIfCatGoes_56 hl (k := 6) rfl (nI_add r 1) (by decide) rfl (fun ls hl => ?_)
          refine lv_goto (tgt := 23) hx hb dX1_sureIfCatGoes_59 (by decide) ?_
          exact ih23 (r + 1) (fun i => F i || ((oB ω) (nextP ph) r) i) (by omega) (by omega) (by rw [← hE, show 8 - r = (8 - (r + 1)) + 1 by omega, oCatL]; first | rw [if_pos (by assumption)] | rw [if_neg (by simp [c27_5, c37_8]; done)]) ls (lv_sub hl [2, 3, 4, 5, 6, 1, 0] rfl)
  exact loop23 (8 + 1) 0 (fun _ => false) (by omega) (by omega) rfl ls (lv_sub hl [4, 5, 6, 3, 2, 1, 0] rfl)

set_option maxHeartbeats 4000000 in
set_option maxRecDepth 100000 in
theorem c_X1_sureIfMouseGoes (l : Launch) (D : va_G) (cZ cI : ClassId) (o : Nat → Nat) (q : Nat → Nat) (ω : OS) (σ : HS)  (ph : Nat) (x : Nat) (hσ : zOk σ) (hp : ph < 12) (hx8 : x < 8) : Met l yX1_sureIfMouseGoes wsX1_sureIfMouseGoes ({ frames := 1, cells := 0, slots := 0, locals := 21 }) (RdP D cZ cI [.ref (o 0), .ref (q 0), .int (nI ph), .int (nI x)] (pO cZ cI o q ω σ)) (vp_Si (fun r0 => r0 = sb (oMouse (oW ω) (oB ω) (zN σ) ph x))) 0 0 (fun _ => False) := by
  refine Met.ofW (cc := cX1_sureIfMouseGoes) (maxL := 7) (ret := (some .int)) (by decide) rfl ?_
  intro p e s m args below meth c s₁ B hml hv
  obtain ⟨rfl, hP, hZ⟩ := hv
  have hx := B.exec
  have hb := B.bytes
  have hr := B.returns
  have hts := atoms_spec (ws := wsX1_sureIfMouseGoes) B.pre
  have hown : s.vm.findClass RX1 = some m.cls := findClass_of_methodNamed B.named
  have hlocks := B.notSynchronized
  have hP : va_P D vwCl (pO cZ cI o q ω σ) s.heap := hP
  have hl := lv_entry ([.ref (o 0), .ref (q 0), .int (nI ph), .int (nI x)]) (n := 7) (Nat.le_of_ble_eq_true rfl)
  rw [lg_entry_eq]
  generalize (lg_sl ([.ref (o 0), .ref (q 0), .int (nI ph), .int (nI x)]) ++ List.replicate (7 - (lg_sl ([.ref (o 0), .ref (q 0), .int (nI ph), .int (nI x)])).length) Slot.unset).toArray = ls at hl ⊢
  have hl : lv_has ls 7 [(0, .ref (o 0)), (1, .ref (q 0)), (2, .int (nI ph)), (3, .int (nI x))] := hl
  have hin0 : ∀ w ∈ u_ws RX0 TX0 9, w ∈ wsX1_sureIfMouseGoes := by decide +kernel
  have hin1 : ∀ w ∈ u_ws RX1 TX1 4, w ∈ wsX1_sureIfMouseGoes := by decide +kernel
  have hf11 := hts (.fieldLink RX1 11 "DoorChase$Outlook" "ways" "[I") (by decide +kernel)
  have hf18 := hts (.fieldLink RX1 18 "DoorChase$Outlook" "sureBefore" "[I") (by decide +kernel)
  have hf81 := hts (.fieldLink RX1 81 "DoorChase$House" "roomCount" "I") (by decide +kernel)
  obtain ⟨hσ1, hσ2, hσ3, hσ4, hσ5, hσ6, hσ7⟩ := id hσ
  have hnx : nextP ph < 12 := nextP_lt hp
  refine lv_aload_n hx hb dX1_sureIfMouseGoes_0 rfl (lv_at hl 0 rfl) ?_
  refine va_get (D := D) (ci := 1) (v := .ref (o 3)) (C := RX1) (T := TX1) (N := 4) hx hb hts hin1 hown hZ.1 hP 0 rfl rfl 2 (by decide) hf18 (fun _ h9 => h9) rfl dX1_sureIfMouseGoes_1 ?_
  refine lv_iload_n hx hb dX1_sureIfMouseGoes_4 rfl (lv_at hl 2 rfl) ?_
  refine vp_callSi (va_runS (As := [.int (nI ph)]) (rest := [.ref (o 3)]) ⟨hx, hb, hml, hown, hts⟩ (c_X1_phaseBehind l D cZ cI   ph (by first | assumption | omega)) (va_cwS 1 hts gX1_sureIfMouseGoes_X1_phaseBehind rfl rfl rfl (by decide +kernel) ⟨Nat.le_of_ble_eq_true rfl, Nat.le_of_ble_eq_true rfl⟩) ⟨RdP_blind, RdP_start (hP.sub (ws' := []) [] rfl) hZ⟩ rfl rfl hl.1 rfl (lv_room (Nat.le_of_ble_eq_true rfl)) dX1_sureIfMouseGoes_5 ⟨Nat.le_of_ble_eq_true rfl, Nat.le_of_ble_eq_true rfl⟩).run (fun r_1 hr_2 => ?_)
  subst hr_2
  refine rv_top (show _ = nI (nextP ph) from rfl) ?_
  refine lv_iload_n hx hb dX1_sureIfMouseGoes_8 rfl (lv_at hl 3 rfl) ?_
  refine vp_callSi (va_runS (As := [.int (nI (nextP ph)), .int (nI x)]) (rest := [.ref (o 3)]) ⟨hx, hb, hml, hown, hts⟩ (c_X1_placeOf l D cZ cI   (nextP ph) x ) (va_cwS 2 hts gX1_sureIfMouseGoes_X1_placeOf rfl rfl rfl (by decide +kernel) ⟨Nat.le_of_ble_eq_true rfl, Nat.le_of_ble_eq_true rfl⟩) ⟨RdP_blind, RdP_start (hP.sub (ws' := []) [] rfl) hZ⟩ rfl rfl hl.1 rfl (lv_room (Nat.le_of_ble_eq_true rfl)) dX1_sureIfMouseGoes_9 ⟨Nat.le_of_ble_eq_true rfl, Nat.le_of_ble_eq_true rfl⟩).run (fun r_3 hr_4 => ?_)
  subst hr_4
  refine rv_top (show _ = nI ((nextP ph) * 8 + x) from rfl) ?_
  refine rv_iald hx hb hZ.1 hP 3 1 rfl rfl (r := (nextP ph) * 8 + x) (by omega) (by decide) (v := sb ((oB ω) (nextP ph) x)) (encW_at _ (nextP ph) (by omega)) dX1_sureIfMouseGoes_12 ?_
  refine lv_istore (lv' := [(4, .int (sb ((oB ω) (nextP ph) x))), (0, .ref (o 0)), (1, .ref (q 0)), (2, .int (nI ph)), (3, .int (nI x))]) hx hb dX1_sureIfMouseGoes_13 hl (by decide) rfl (fun ls hl => ?_)
  refine lv_iconst (v := nI 0) hx hb dX1_sureIfMouseGoes_15 (by decide) ?_
  refine rv_top (show nI 0 = sb (fun _ => false) from sb_0.symm) ?_
  refine lv_istore (lv' := [(5, .int (sb (fun _ => false))), (4, .int (sb ((oB ω) (nextP ph) x))), (0, .ref (o 0)), (1, .ref (q 0)), (2, .int (nI ph)), (3, .int (nI x))]) hx hb dX1_sureIfMouseGoes_16 hl (by decide) rfl (fun ls hl => ?_)
  refine lv_iconst (v := nI 0) hx hb dX1_sureIfMouseGoes_18 (by decide) ?_
  refine lv_istore (lv' := [(6, .int (nI 0)), (5, .int (sb (fun _ => false))), (4, .int (sb ((oB ω) (nextP ph) x))), (0, .ref (o 0)), (1, .ref (q 0)), (2, .int (nI ph)), (3, .int (nI x))]) hx hb dX1_sureIfMouseGoes_19 hl (by decide) rfl (fun ls hl => ?_)
  have loop21 : ∀ (n : Nat) (r : Nat) (F : Nat → Bool), zN σ + 1 ≤ r + n → (r ≤ zN σ) → (oMouL (oW ω) (oB ω) ph x (zN σ - r) r F = oMouse (oW ω) (oB ω) (zN σ) ph x) → ∀ (ls : Array Slot), lv_has ls 7 [(0, .ref (o 0)), (1, .ref (q 0)), (2, .int (nI ph)), (3, .int (nI x)), (4, .int (sb ((oB ω) (nextP ph) x))), (5, .int (sb F)), (6, .int (nI r))] → W p l e (headSpec wsX1_sureIfMouseGoes ({ frames := 1, cells := 0, slots := 0, locals := 21 })).room s m ([.ref (o 0), .ref (q 0), .int (nI ph), .int (nI x)] : List Value).toArray below meth c s.heap [] 0 0 (MQ below (vp_Si (fun r0 => r0 = sb (oMouse (oW ω) (oB ω) (zN σ) ph x))) ([.ref (o 0), .ref (q 0), .int (nI ph), .int (nI x)] : List Value).toArray s 0 0 (fun _ => False)) (F0 m 21 ls []) := by
    intro n
    induction n with
    | zero =>
      intro r F hmeas hr8 hE ls hl
      exact absurd hmeas (by omega)
    | succ n ih21 =>
      intro r F hmeas hr8 hE ls hl
      refine lv_iload hx hb dX1_sureIfMouseGoes_21 (lv_at hl 6 rfl) ?_
      refine lv_aload_n hx hb dX1_sureIfMouseGoes_23 rfl (lv_at hl 1 rfl) ?_
      refine va_get (D := D) (ci := 0) (v := .int (nI (zN σ))) (C := RX0) (T := TX0) (N := 9) hx hb hts hin0 hown hZ.1 hP 5 rfl rfl 0 (by decide) hf81 (fun _ h9 => h9) rfl dX1_sureIfMouseGoes_24 ?_
      refine rv_ge (tgt := 65) hx hb (by omega) (by omega) dX1_sureIfMouseGoes_27 (by decide) (fun c27_5 => ?_) (fun c27_5 => ?_)
      · skip
        refine lv_iload hx hb dX1_sureIfMouseGoes_65 (lv_at hl 5 rfl) ?_
        exact W.iret (v := sb F) hx hb hr (fun t ht hW => ⟨_, rfl, (show sb F = sb (oMouse (oW ω) (oB ω) (zN σ) ph x) from by rw [← hE, show zN σ - r = 0 by omega]; rfl), ht⟩) (fun q h => absurd h List.not_mem_nil) dX1_sureIfMouseGoes_67
      · skip
        refine lv_aload_n hx hb dX1_sureIfMouseGoes_30 rfl (lv_at hl 0 rfl) ?_
        refine va_get (D := D) (ci := 1) (v := .ref (o 1)) (C := RX1) (T := TX1) (N := 4) hx hb hts hin1 hown hZ.1 hP 0 rfl rfl 0 (by decide) hf11 (fun _ h9 => h9) rfl dX1_sureIfMouseGoes_31 ?_
        refine lv_iload_n hx hb dX1_sureIfMouseGoes_34 rfl (lv_at hl 2 rfl) ?_
        refine lv_iload hx hb dX1_sureIfMouseGoes_35 (lv_at hl 6 rfl) ?_
        refine vp_callSi (va_runS (As := [.int (nI ph), .int (nI r)]) (rest := [.ref (o 1)]) ⟨hx, hb, hml, hown, hts⟩ (c_X1_placeOf l D cZ cI   ph r ) (va_cwS 2 hts gX1_sureIfMouseGoes_X1_placeOf rfl rfl rfl (by decide +kernel) ⟨Nat.le_of_ble_eq_true rfl, Nat.le_of_ble_eq_true rfl⟩) ⟨RdP_blind, RdP_start (hP.sub (ws' := []) [] rfl) hZ⟩ rfl rfl hl.1 rfl (lv_room (Nat.le_of_ble_eq_true rfl)) dX1_sureIfMouseGoes_37 ⟨Nat.le_of_ble_eq_true rfl, Nat.le_of_ble_eq_true rfl⟩).run (fun r_6 hr_7 => ?_)
        subst hr_7
        refine rv_top (show _ = nI (ph * 8 + r) from rfl) ?_
        refine rv_iald hx hb hZ.1 hP 1 1 rfl rfl (r := ph * 8 + r) (by omega) (by decide) (v := sb ((oW ω) ph r)) (encW_at _ ph (by omega)) dX1_sureIfMouseGoes_40 ?_
        refine lv_iload hx hb dX1_sureIfMouseGoes_41 (lv_at hl 4 rfl) ?_
        refine lv_iconst (v := (-1)) hx hb dX1_sureIfMouseGoes_43 (by decide) ?_
        refine lv_ixor hx hb dX1_sureIfMouseGoes_44 ?_
        refine rv_andnS hx hb dX1_sureIfMouseGoes_45 ?_
        refine rv_ifneS (tgt := 59) hx hb dX1_sureIfMouseGoes_46 (by decide) (fun c46_8 => ?_) (fun c46_8 => ?_)
        · skip
          refine lv_iinc (v := nI (r + 1)) (lv' := [(6, .int (nI (r + 1))), (0, .ref (o 0)), (1, .ref (q 0)), (2, .int (nI ph)), (3, .int (nI x)), (4, .int (sb ((oB ω) (nextP ph) x))), (5, .int (sb F))]) hx hb dX1_sureIfMouseGoes_59 hl (k := 6) rfl (nI_add r 1) (by decide) rfl (fun ls hl => ?_)
          refine lv_goto (tgt := 21) hx hb dX1_sureIfMouseGoes_62 (by decide) ?_
          exact ih21 (r + 1) F (by omega) (by omega) (by rw [← hE, show zN σ - r = (zN σ - (r + 1)) + 1 by omega, oMouL]; first | rw [if_pos (by assumption)] | rw [if_neg (by assumption)]) ls (lv_sub hl [1, 2, 3, 4, 5, 6, 0] rfl)
        · skip
          refine lv_iload hx hb dX1_sureIfMouseGoes_49 (lv_at hl 5 rfl) ?_
          refine lv_iload hx hb dX1_sureIfMouseGoes_51 (lv_at hl 6 rfl) ?_
          refine vp_callSi (va_runSN (As := [.int (nI r)]) (rest := [.int (sb F)]) ⟨hx, hb, hml, hown, hts⟩ (c_X2_bit l D cZ cI   r (by first | assumption | omega)) ⟨va_cnB 1 hts gX1_sureIfMouseGoes_X2_bit_n50 rfl rfl rfl hZ.2.2.2.2.1 (hts (.initialized RX2) (by decide +kernel)) (by decide +kernel) ⟨Nat.le_of_ble_eq_true rfl, Nat.le_of_ble_eq_true rfl⟩, hts (.static yX2_bit) (by decide +kernel), trivial⟩ ⟨RdP_blind, RdP_start (hP.sub (ws' := []) [] rfl) hZ⟩ rfl rfl hl.1 rfl (lv_room (Nat.le_of_ble_eq_true rfl)) dX1_sureIfMouseGoes_53 ⟨Nat.le_of_ble_eq_true rfl, Nat.le_of_ble_eq_true rfl⟩).run (fun r_9 hr_10 => ?_)
          subst hr_10
          refine rv_top (show _ = sb (fun i => i == r) from rfl) ?_
          refine rv_orS hx hb dX1_sureIfMouseGoes_56 ?_
          refine lv_istore (lv' := [(5, .int (sb (fun i => F i || (fun i => i == r) i))), (0, .ref (o 0)), (1, .ref (q 0)), (2, .int (nI ph)), (3, .int (nI x)), (4, .int (sb ((oB ω) (nextP ph) x))), (6, .int (nI r))]) hx hb dX1_sureIfMouseGoes_57 hl (by decide) rfl (fun ls hl => ?_)
          refine lv_iinc (v := nI (r + 1)) (lv' := [(6, .int (nI (r + 1))), (5, .int (sb (fun i => F i || (fun i => i == r) i))), (0, .ref (o 0)), (1, .ref (q 0)), (2, .int (nI ph)), (3, .int (nI x)), (4, .int (sb ((oB ω) (nextP ph) x)))]) hx hb dX1_sureIfMouseGoes_59 hl (k := 6) rfl (nI_add r 1) (by decide) rfl (fun ls hl => ?_)
          refine lv_goto (tgt := 21) hx hb dX1_sureIfMouseGoes_62 (by decide) ?_
          exact ih21 (r + 1) (fun i => F i || (fun i => i == r) i) (by omega) (by omega) (by rw [← hE, show zN σ - r = (zN σ - (r + 1)) + 1 by omega, oMouL]; first | rw [if_pos (by assumption)] | rw [if_neg (by assumption)]) ls (lv_sub hl [2, 3, 4, 5, 6, 1, 0] rfl)
  exact loop21 (zN σ + 1) 0 (fun _ => false) (by omega) (by omega) rfl ls (lv_sub hl [3, 4, 5, 6, 2, 1, 0] rfl)


