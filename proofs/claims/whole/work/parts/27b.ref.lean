set_option maxHeartbeats 4000000 in
set_option maxRecDepth 100000 in
theorem r_X3_thrown (l : Launch) (D : va_G) (cZ cI : ClassId) (b : Nat → Nat) (th : Nat) (ro : Nat) (tn : Nat) (on : Bool) (cg : Bool) (ct : Nat) (mo : Nat) (ea : Nat) (T : Nat → Nat → Nat → Option Nat)    : Met l yX3_thrown wsX3_thrown ({ frames := 0, cells := 0, slots := 0, locals := 0 }) (RdP D cZ cI [.ref (b 0)] (pR cZ cI b th ro tn on cg ct mo ea (fun _ => false) T)) (vp_Si (fun r0 => r0 = nI th)) 0 0 (fun _ => False) := by
  refine Met.ofW (cc := cX3_thrown) (maxL := 1) (ret := (some .int)) (by decide) rfl ?_
  intro p e s m args below meth c s₁ B hml hv
  obtain ⟨rfl, hP, hZ⟩ := hv
  have hx := B.exec
  have hb := B.bytes
  have hr := B.returns
  have hts := atoms_spec (ws := wsX3_thrown) B.pre
  have hown : s.vm.findClass RX3 = some m.cls := findClass_of_methodNamed B.named
  have hlocks := B.notSynchronized
  have hP : va_P D vwCl (pR cZ cI b th ro tn on cg ct mo ea (fun _ => false) T) s.heap := hP
  have hl := lv_entry ([.ref (b 0)]) (n := 1) (Nat.le_of_ble_eq_true rfl)
  rw [lg_entry_eq]
  generalize (lg_sl ([.ref (b 0)]) ++ List.replicate (1 - (lg_sl ([.ref (b 0)])).length) Slot.unset).toArray = ls at hl ⊢
  have hl : lv_has ls 1 [(0, .ref (b 0))] := hl
  have hin3 : ∀ w ∈ u_ws RX3 TX3 20, w ∈ wsX3_thrown := by decide +kernel
  have hf35 := hts (.fieldLink RX3 35 "DoorChaseModel" "thrown" "I") (by decide +kernel)
  refine lv_aload_n hx hb dX3_thrown_0 rfl (lv_at hl 0 rfl) ?_
  refine va_get (D := D) (ci := 3) (v := .int (nI th)) (C := RX3) (T := TX3) (N := 20) hx hb hts hin3 hown hZ.1 hP 0 rfl rfl 0 (by decide) hf35 (fun _ h9 => h9) rfl dX3_thrown_1 ?_
  exact W.iret (v := nI th) hx hb hr (fun t ht hW => ⟨_, rfl, rfl, ht⟩) (fun q h => absurd h List.not_mem_nil) dX3_thrown_4

set_option maxHeartbeats 4000000 in
set_option maxRecDepth 100000 in
theorem r_X3_isIn (l : Launch) (D : va_G) (cZ cI : ClassId)   (v9 : Int32) (l9 : Int32) (g9 : Int32)  : Met l yX3_isIn wsX3_isIn ({ frames := 0, cells := 0, slots := 0, locals := 0 }) (RdP D cZ cI [.int (v9), .int (l9), .int (g9)] ([])) (vp_Si (fun r0 => r0 = bI (decide (l9 ≤ v9) && decide (v9 ≤ g9)))) 0 0 (fun _ => False) := by
  refine Met.ofW (cc := cX3_isIn) (maxL := 3) (ret := (some .boolean)) (by decide) rfl ?_
  intro p e s m args below meth c s₁ B hml hv
  obtain ⟨rfl, hP, hZ⟩ := hv
  have hx := B.exec
  have hb := B.bytes
  have hr := B.returns
  have hts := atoms_spec (ws := wsX3_isIn) B.pre
  have hown : s.vm.findClass RX3 = some m.cls := findClass_of_methodNamed B.named
  have hlocks := B.notSynchronized
  have hP : va_P D vwCl ([]) s.heap := hP
  have hl := lv_entry ([.int (v9), .int (l9), .int (g9)]) (n := 3) (Nat.le_of_ble_eq_true rfl)
  rw [lg_entry_eq]
  generalize (lg_sl ([.int (v9), .int (l9), .int (g9)]) ++ List.replicate (3 - (lg_sl ([.int (v9), .int (l9), .int (g9)])).length) Slot.unset).toArray = ls at hl ⊢
  have hl : lv_has ls 3 [(0, .int (v9)), (1, .int (l9)), (2, .int (g9))] := hl
  refine lv_iload_n hx hb dX3_isIn_0 rfl (lv_at hl 0 rfl) ?_
  refine lv_iload_n hx hb dX3_isIn_1 rfl (lv_at hl 1 rfl) ?_
  refine lv_icmp_lt (tgt := 14) hx hb dX3_isIn_2 (by decide) (fun c2_1 => ?_) (fun c2_1 => ?_)
  · skip
    refine lv_iconst (v := nI 0) hx hb dX3_isIn_14 (by decide) ?_
    exact W.zret (v := nI 0) hx hb hr rfl (fun t ht hW => ⟨_, rfl, (show nI 0 = bI (decide (l9 ≤ v9) && decide (v9 ≤ g9)) from by rw [show (decide (l9 ≤ v9) && decide (v9 ≤ g9)) = false from isIn_f1 c2_1]; rfl), ht⟩) (fun q h => absurd h List.not_mem_nil) dX3_isIn_15
  · skip
    refine lv_iload_n hx hb dX3_isIn_5 rfl (lv_at hl 0 rfl) ?_
    refine lv_iload_n hx hb dX3_isIn_6 rfl (lv_at hl 2 rfl) ?_
    refine lv_icmp_gt (tgt := 14) hx hb dX3_isIn_7 (by decide) (fun c7_2 => ?_) (fun c7_2 => ?_)
    · skip
      refine lv_iconst (v := nI 0) hx hb dX3_isIn_14 (by decide) ?_
      exact W.zret (v := nI 0) hx hb hr rfl (fun t ht hW => ⟨_, rfl, (show nI 0 = bI (decide (l9 ≤ v9) && decide (v9 ≤ g9)) from by rw [show (decide (l9 ≤ v9) && decide (v9 ≤ g9)) = false from isIn_f2 c7_2]; rfl), ht⟩) (fun q h => absurd h List.not_mem_nil) dX3_isIn_15
    · skip
      refine lv_iconst (v := nI 1) hx hb dX3_isIn_10 (by decide) ?_
      refine lv_goto (tgt := 15) hx hb dX3_isIn_11 (by decide) ?_
      exact W.zret (v := nI 1) hx hb hr rfl (fun t ht hW => ⟨_, rfl, (show nI 1 = bI (decide (l9 ≤ v9) && decide (v9 ≤ g9)) from by rw [show (decide (l9 ≤ v9) && decide (v9 ≤ g9)) = true from isIn_t c2_1 c7_2]; rfl), ht⟩) (fun q h => absurd h List.not_mem_nil) dX3_isIn_15

set_option maxHeartbeats 4000000 in
set_option maxRecDepth 100000 in
theorem r_X3_refuse (l : Launch) (D : va_G) (cZ cI : ClassId) (b : Nat → Nat) (ro : Nat) (tn : Nat) (on : Bool) (cg : Bool) (ct : Nat) (mo : Nat) (ea : Nat) (T : Nat → Nat → Nat → Option Nat) (sz : Nat) (k9 : Nat)  : Met l yX3_refuse wsX3_refuse ({ frames := 0, cells := 0, slots := 0, locals := 0 }) (WrP D cZ cI [.ref (b 0), .int (bI false), .int (nI k9)] (pR cZ cI b 0 ro tn on cg ct mo ea (fun _ => false) T) sz) (WrI D (pR cZ cI b 0 ro tn on cg ct mo ea (fun _ => false) T) (va_A (pR cZ cI b 0 ro tn on cg ct mo ea (fun _ => false) T) sz) (bI false)) 0 0 (va_A (pR cZ cI b 0 ro tn on cg ct mo ea (fun _ => false) T) sz) := by
  refine Met.ofW (cc := cX3_refuse) (maxL := 3) (ret := (some .boolean)) (by decide) rfl ?_
  intro p e s m args below meth c s₁ B hml hv
  obtain ⟨rfl, hsz, hP, hZ, hD0⟩ := hv
  have hx := B.exec
  have hb := B.bytes
  have hr := B.returns
  have hts := atoms_spec (ws := wsX3_refuse) B.pre
  have hown : s.vm.findClass RX3 = some m.cls := findClass_of_methodNamed B.named
  have hlocks := B.notSynchronized
  subst hsz
  have hD := hD0.self (sz := s.heap.size)
  generalize hAe : va_A (pR cZ cI b 0 ro tn on cg ct mo ea (fun _ => false) T) s.heap.size = A at hD ⊢
  have hA : ∀ q : Nat, s.heap.size ≤ q → A q := fun q h => by rw [← hAe]; exact Or.inr h
  have hS : va_S A s.heap s.heap [] := va_S.rf
  have hP : va_P D vwCl (pR cZ cI b 0 ro tn on cg ct mo ea (fun _ => false) T) s.heap := hP
  have hl := lv_entry ([.ref (b 0), .int (bI false), .int (nI k9)]) (n := 3) (Nat.le_of_ble_eq_true rfl)
  rw [lg_entry_eq]
  generalize (lg_sl ([.ref (b 0), .int (bI false), .int (nI k9)]) ++ List.replicate (3 - (lg_sl ([.ref (b 0), .int (bI false), .int (nI k9)])).length) Slot.unset).toArray = ls at hl ⊢
  have hl : lv_has ls 3 [(0, .ref (b 0)), (1, .int (bI false)), (2, .int (nI k9))] := hl
  have hin3 : ∀ w ∈ u_ws RX3 TX3 20, w ∈ wsX3_refuse := by decide +kernel
  have hf35 := hts (.fieldLink RX3 35 "DoorChaseModel" "thrown" "I") (by decide +kernel)
  refine lv_iload_n hx hb dX3_refuse_0 rfl (lv_at hl 1 rfl) ?_
  refine rv_ifeqB (tgt := 16) hx hb dX3_refuse_1 (by decide) (fun c1_1 => ?_) (fun c1_1 => ?_)
  · skip
    refine lv_aload_n hx hb dX3_refuse_16 rfl (lv_at hl 0 rfl) ?_
    refine va_get (D := D) (ci := 3) (v := .int (nI 0)) (C := RX3) (T := TX3) (N := 20) hx hb hts hin3 hown hZ.1 hP 0 rfl rfl 0 (by decide) hf35 (fun _ h9 => h9) rfl dX3_refuse_17 ?_
    refine rv_ifleN (tgt := 27) hx hb (by omega) dX3_refuse_20 (by decide) (fun c20_2 => ?_) (fun c20_2 => ?_)
    · skip
      refine lv_iconst (v := nI 0) hx hb dX3_refuse_27 (by decide) ?_
      have hP9 : va_P D vwCl (pR cZ cI b 0 ro tn on cg ct mo ea (fun _ => false) T) s.heap := by exact hP
      have hD9 : va_D A (pR cZ cI b 0 ro tn on cg ct mo ea (fun _ => false) T) := by exact hD
      exact W.zret (v := nI 0) hx hb hr rfl (fun t ht hW => ⟨⟨_, (), rfl, (show nI 0 = bI false from rfl), by rw [ht]; exact hP9, hD9⟩, hS.F ht⟩) hS.2.2 dX3_refuse_28
    · skip
      first | (exfalso; omega) | exact absurd rfl c20_2
  · skip
    exact Bool.noConfusion c1_1

set_option maxHeartbeats 4000000 in
set_option maxRecDepth 100000 in
theorem r_X3_start (l : Launch) (D : va_G) (cZ cI : ClassId) (b : Nat → Nat) (th : Nat) (ro : Nat) (tn : Nat) (on : Bool) (cg : Bool) (ct : Nat) (mo : Nat) (ea : Nat) (T : Nat → Nat → Nat → Option Nat) (sz : Nat) (k9 : Nat)  : Met l yX3_start wsX3_start ({ frames := 1, cells := 0, slots := 0, locals := 22 }) (WrP D cZ cI [.ref (b 0), .int (bI false), .int (nI k9)] (pR cZ cI b th ro tn on cg ct mo ea (fun _ => false) T) sz) (WrI D (pR cZ cI b 0 ro tn on cg ct mo ea (fun _ => false) T) (va_A (pR cZ cI b th ro tn on cg ct mo ea (fun _ => false) T) sz) (bI false)) 0 0 (va_A (pR cZ cI b th ro tn on cg ct mo ea (fun _ => false) T) sz) := by
  refine Met.ofW (cc := cX3_start) (maxL := 3) (ret := (some .boolean)) (by decide) rfl ?_
  intro p e s m args below meth c s₁ B hml hv
  obtain ⟨rfl, hsz, hP, hZ, hD0⟩ := hv
  have hx := B.exec
  have hb := B.bytes
  have hr := B.returns
  have hts := atoms_spec (ws := wsX3_start) B.pre
  have hown : s.vm.findClass RX3 = some m.cls := findClass_of_methodNamed B.named
  have hlocks := B.notSynchronized
  subst hsz
  have hD := hD0.self (sz := s.heap.size)
  generalize hAe : va_A (pR cZ cI b th ro tn on cg ct mo ea (fun _ => false) T) s.heap.size = A at hD ⊢
  have hA : ∀ q : Nat, s.heap.size ≤ q → A q := fun q h => by rw [← hAe]; exact Or.inr h
  have hS : va_S A s.heap s.heap [] := va_S.rf
  have hP : va_P D vwCl (pR cZ cI b th ro tn on cg ct mo ea (fun _ => false) T) s.heap := hP
  have hl := lv_entry ([.ref (b 0), .int (bI false), .int (nI k9)]) (n := 3) (Nat.le_of_ble_eq_true rfl)
  rw [lg_entry_eq]
  generalize (lg_sl ([.ref (b 0), .int (bI false), .int (nI k9)]) ++ List.replicate (3 - (lg_sl ([.ref (b 0), .int (bI false), .int (nI k9)])).length) Slot.unset).toArray = ls at hl ⊢
  have hl : lv_has ls 3 [(0, .ref (b 0)), (1, .int (bI false)), (2, .int (nI k9))] := hl
  have hin3 : ∀ w ∈ u_ws RX3 TX3 20, w ∈ wsX3_start := by decide +kernel
  have hf35 := hts (.fieldLink RX3 35 "DoorChaseModel" "thrown" "I") (by decide +kernel)
  refine lv_aload_n hx hb dX3_start_0 rfl (lv_at hl 0 rfl) ?_
  refine lv_iconst (v := nI 0) hx hb dX3_start_1 (by decide) ?_
  refine va_put (D := D) (ci := 3) (v := .int (nI 0)) (ty := .int) (C := RX3) (T := TX3) (N := 20) hx hb hts hin3 tyX3 tyX3_ok nmX3 hown hZ.1 hP hD hS 0 rfl rfl 0 (by decide) hf35 (fun _ h9 => h9) rfl (by decide +kernel) rfl rfl (Nat.le_of_ble_eq_true rfl) dX3_start_2 (fun H locs hP hD hS => ?_)
  have hP : va_P D vwCl (pR cZ cI b 0 ro tn on cg ct mo ea (fun _ => false) T) H := hP
  have hD : va_D A (pR cZ cI b 0 ro tn on cg ct mo ea (fun _ => false) T) := hD
  refine lv_aload_n hx hb dX3_start_5 rfl (lv_at hl 0 rfl) ?_
  refine lv_iload_n hx hb dX3_start_6 rfl (lv_at hl 1 rfl) ?_
  refine lv_iload_n hx hb dX3_start_7 rfl (lv_at hl 2 rfl) ?_
  have hFc := va_free (wc := pR cZ cI b 0 ro tn on cg ct mo ea (fun _ => false) T) hD hS hA [0, 1, 2, 3, 4, 5, 6, 7, 8] rfl
  refine va_calli (va_runV (As := [.int (bI false), .int (nI k9)]) (rest := []) ⟨hx, hb, hml, hown, hts⟩ (r_X3_refuse l D cZ cI b ro tn on cg ct mo ea T H.size k9 ) (cwV 2 hts gX3_start_X3_refuse rfl rfl rfl (by decide +kernel) ⟨Nat.le_of_ble_eq_true rfl, Nat.le_of_ble_eq_true rfl⟩) ⟨WrP_blind, va_recv hZ.1 hP (ci := 3) (q0 := 0) rfl rfl, WrP_start hP hD hZ⟩ rfl rfl hl.1 rfl (lv_room (Nat.le_of_ble_eq_true rfl)) dX3_start_8 ⟨Nat.le_of_ble_eq_true rfl, Nat.le_of_ble_eq_true rfl⟩) hS (fun q _ h => hFc q h) hFc (fun r9 u t H1 locs ht hvm hw hB hz1 hk1 hS => ?_)
  obtain ⟨hP, hD⟩ := hB
  rw [ht] at hP
  replace hD := hD.weaken (fun _ _ _ h => hFc _ h)
  generalize H1 = H at hP hS ⊢
  have hP : va_P D vwCl (pR cZ cI b 0 ro tn on cg ct mo ea (fun _ => false) T) H := hP
  have hD : va_D A (pR cZ cI b 0 ro tn on cg ct mo ea (fun _ => false) T) := hD
  subst hw
  refine rv_top (show _ = bI false from rfl) ?_
  have hP9 : va_P D vwCl (pR cZ cI b 0 ro tn on cg ct mo ea (fun _ => false) T) H := by exact hP
  have hD9 : va_D A (pR cZ cI b 0 ro tn on cg ct mo ea (fun _ => false) T) := by exact hD
  exact W.zret (v := bI false) hx hb hr (nr_bI _) (fun t ht hW => ⟨⟨_, (), rfl, (show bI false = bI false from rfl), by rw [ht]; exact hP9, hD9⟩, hS.F ht⟩) hS.2.2 dX3_start_11

set_option maxHeartbeats 4000000 in
set_option maxRecDepth 100000 in
theorem r_X3_isNoRoom (l : Launch) (D : va_G) (cZ cI : ClassId) (b : Nat → Nat) (th : Nat) (ro : Nat) (tn : Nat) (on : Bool) (cg : Bool) (ct : Nat) (mo : Nat) (ea : Nat) (T : Nat → Nat → Nat → Option Nat) (sz : Nat) (x : Nat) (hro : ro ≤ 8) (hxr : x < ro) : Met l yX3_isNoRoom wsX3_isNoRoom ({ frames := 2, cells := 0, slots := 0, locals := 44 }) (WrP D cZ cI [.ref (b 0), .int (nI x)] (pR cZ cI b th ro tn on cg ct mo ea (fun _ => false) T) sz) (WrI D (pR cZ cI b 0 ro tn on cg ct mo ea (fun _ => false) T) (va_A (pR cZ cI b th ro tn on cg ct mo ea (fun _ => false) T) sz) (bI false)) 0 0 (va_A (pR cZ cI b th ro tn on cg ct mo ea (fun _ => false) T) sz) := by
  refine Met.ofW (cc := cX3_isNoRoom) (maxL := 2) (ret := (some .boolean)) (by decide) rfl ?_
  intro p e s m args below meth c s₁ B hml hv
  obtain ⟨rfl, hsz, hP, hZ, hD0⟩ := hv
  have hx := B.exec
  have hb := B.bytes
  have hr := B.returns
  have hts := atoms_spec (ws := wsX3_isNoRoom) B.pre
  have hown : s.vm.findClass RX3 = some m.cls := findClass_of_methodNamed B.named
  have hlocks := B.notSynchronized
  subst hsz
  have hD := hD0.self (sz := s.heap.size)
  generalize hAe : va_A (pR cZ cI b th ro tn on cg ct mo ea (fun _ => false) T) s.heap.size = A at hD ⊢
  have hA : ∀ q : Nat, s.heap.size ≤ q → A q := fun q h => by rw [← hAe]; exact Or.inr h
  have hS : va_S A s.heap s.heap [] := va_S.rf
  have hP : va_P D vwCl (pR cZ cI b th ro tn on cg ct mo ea (fun _ => false) T) s.heap := hP
  have hl := lv_entry ([.ref (b 0), .int (nI x)]) (n := 2) (Nat.le_of_ble_eq_true rfl)
  rw [lg_entry_eq]
  generalize (lg_sl ([.ref (b 0), .int (nI x)]) ++ List.replicate (2 - (lg_sl ([.ref (b 0), .int (nI x)])).length) Slot.unset).toArray = ls at hl ⊢
  have hl : lv_has ls 2 [(0, .ref (b 0)), (1, .int (nI x))] := hl
  have hin3 : ∀ w ∈ u_ws RX3 TX3 20, w ∈ wsX3_isNoRoom := by decide +kernel
  have hf43 := hts (.fieldLink RX3 43 "DoorChaseModel" "rooms" "I") (by decide +kernel)
  refine lv_aload_n hx hb dX3_isNoRoom_0 rfl (lv_at hl 0 rfl) ?_
  refine lv_iload_n hx hb dX3_isNoRoom_1 rfl (lv_at hl 1 rfl) ?_
  refine lv_iconst (v := nI 0) hx hb dX3_isNoRoom_2 (by decide) ?_
  refine lv_aload_n hx hb dX3_isNoRoom_3 rfl (lv_at hl 0 rfl) ?_
  refine va_get (D := D) (ci := 3) (v := .int (nI ro)) (C := RX3) (T := TX3) (N := 20) hx hb hts hin3 hown hZ.1 hP 0 rfl rfl 1 (by decide) hf43 (fun _ h9 => h9) rfl dX3_isNoRoom_4 ?_
  refine lv_iconst (v := nI 1) hx hb dX3_isNoRoom_7 (by decide) ?_
  refine rv_sub hx hb (by omega) dX3_isNoRoom_8 ?_
  refine vp_callSi (va_runS (As := [.int (nI x), .int (nI 0), .int (nI (ro - 1))]) (rest := [.ref (b 0)]) ⟨hx, hb, hml, hown, hts⟩ (r_X3_isIn l D cZ cI   (nI x) (nI 0) (nI (ro - 1)) ) (va_cwS 3 hts gX3_isNoRoom_X3_isIn rfl rfl rfl (by decide +kernel) ⟨Nat.le_of_ble_eq_true rfl, Nat.le_of_ble_eq_true rfl⟩) ⟨RdP_blind, RdP_start (hP.sub (ws' := []) [] rfl) hZ⟩ rfl rfl hl.1 rfl (lv_room (Nat.le_of_ble_eq_true rfl)) dX3_isNoRoom_9 ⟨Nat.le_of_ble_eq_true rfl, Nat.le_of_ble_eq_true rfl⟩).run (fun r_1 hr_2 => ?_)
  subst hr_2
  refine rv_top (show _ = bI (decide ((nI 0) ≤ (nI x)) && decide ((nI x) ≤ (nI (ro - 1)))) from rfl) ?_
  refine rv_top (congrArg bI (isIn_N hxr hro)) ?_
  refine rv_ifneB (tgt := 19) hx hb dX3_isNoRoom_12 (by decide) (fun c12_3 => ?_) (fun c12_3 => ?_)
  · skip
    refine lv_iconst (v := nI 0) hx hb dX3_isNoRoom_19 (by decide) ?_
    refine rv_top (show nI 0 = bI false from rfl) ?_
    refine lv_iconst (v := nI 1) hx hb dX3_isNoRoom_20 (by decide) ?_
    have hFc := va_free (wc := pR cZ cI b th ro tn on cg ct mo ea (fun _ => false) T) hD hS hA [0, 1, 2, 3, 4, 5, 6, 7, 8] rfl
    refine va_calli (va_runV (As := [.int (bI false), .int (nI 1)]) (rest := []) ⟨hx, hb, hml, hown, hts⟩ (r_X3_start l D cZ cI b th ro tn on cg ct mo ea T s.heap.size 1 ) (cwV 2 hts gX3_isNoRoom_X3_start rfl rfl rfl (by decide +kernel) ⟨Nat.le_of_ble_eq_true rfl, Nat.le_of_ble_eq_true rfl⟩) ⟨WrP_blind, va_recv hZ.1 hP (ci := 3) (q0 := 0) rfl rfl, WrP_start hP hD hZ⟩ rfl rfl hl.1 rfl (lv_room (Nat.le_of_ble_eq_true rfl)) dX3_isNoRoom_21 ⟨Nat.le_of_ble_eq_true rfl, Nat.le_of_ble_eq_true rfl⟩) hS (fun q _ h => hFc q h) hFc (fun r9 u t H1 locs ht hvm hw hB hz1 hk1 hS => ?_)
    obtain ⟨hP, hD⟩ := hB
    rw [ht] at hP
    replace hD := hD.weaken (fun _ _ _ h => hFc _ h)
    generalize H1 = H at hP hS ⊢
    have hP : va_P D vwCl (pR cZ cI b 0 ro tn on cg ct mo ea (fun _ => false) T) H := hP
    have hD : va_D A (pR cZ cI b 0 ro tn on cg ct mo ea (fun _ => false) T) := hD
    subst hw
    refine rv_top (show _ = bI false from rfl) ?_
    have hP9 : va_P D vwCl (pR cZ cI b 0 ro tn on cg ct mo ea (fun _ => false) T) H := by exact hP
    have hD9 : va_D A (pR cZ cI b 0 ro tn on cg ct mo ea (fun _ => false) T) := by exact hD
    exact W.zret (v := bI false) hx hb hr (nr_bI _) (fun t ht hW => ⟨⟨_, (), rfl, (show bI false = bI false from rfl), by rw [ht]; exact hP9, hD9⟩, hS.F ht⟩) hS.2.2 dX3_isNoRoom_24
  · skip
    exact Bool.noConfusion c12_3

set_option maxHeartbeats 4000000 in
set_option maxRecDepth 100000 in
theorem r_X3_areNoRooms (l : Launch) (D : va_G) (cZ cI : ClassId) (b : Nat → Nat) (th : Nat) (ro : Nat) (tn : Nat) (on : Bool) (cg : Bool) (ct : Nat) (mo : Nat) (ea : Nat) (T : Nat → Nat → Nat → Option Nat) (sz : Nat) (x : Nat) (y : Nat) (hro : ro ≤ 8) (hxr : x < ro) (hyr : y < ro) : Met l yX3_areNoRooms wsX3_areNoRooms ({ frames := 3, cells := 0, slots := 0, locals := 65 }) (WrP D cZ cI [.ref (b 0), .int (nI x), .int (nI y)] (pR cZ cI b th ro tn on cg ct mo ea (fun _ => false) T) sz) (WrI D (pR cZ cI b 0 ro tn on cg ct mo ea (fun _ => false) T) (va_A (pR cZ cI b th ro tn on cg ct mo ea (fun _ => false) T) sz) (bI false)) 0 0 (va_A (pR cZ cI b th ro tn on cg ct mo ea (fun _ => false) T) sz) := by
  refine Met.ofW (cc := cX3_areNoRooms) (maxL := 3) (ret := (some .boolean)) (by decide) rfl ?_
  intro p e s m args below meth c s₁ B hml hv
  obtain ⟨rfl, hsz, hP, hZ, hD0⟩ := hv
  have hx := B.exec
  have hb := B.bytes
  have hr := B.returns
  have hts := atoms_spec (ws := wsX3_areNoRooms) B.pre
  have hown : s.vm.findClass RX3 = some m.cls := findClass_of_methodNamed B.named
  have hlocks := B.notSynchronized
  subst hsz
  have hD := hD0.self (sz := s.heap.size)
  generalize hAe : va_A (pR cZ cI b th ro tn on cg ct mo ea (fun _ => false) T) s.heap.size = A at hD ⊢
  have hA : ∀ q : Nat, s.heap.size ≤ q → A q := fun q h => by rw [← hAe]; exact Or.inr h
  have hS : va_S A s.heap s.heap [] := va_S.rf
  have hP : va_P D vwCl (pR cZ cI b th ro tn on cg ct mo ea (fun _ => false) T) s.heap := hP
  have hl := lv_entry ([.ref (b 0), .int (nI x), .int (nI y)]) (n := 3) (Nat.le_of_ble_eq_true rfl)
  rw [lg_entry_eq]
  generalize (lg_sl ([.ref (b 0), .int (nI x), .int (nI y)]) ++ List.replicate (3 - (lg_sl ([.ref (b 0), .int (nI x), .int (nI y)])).length) Slot.unset).toArray = ls at hl ⊢
  have hl : lv_has ls 3 [(0, .ref (b 0)), (1, .int (nI x)), (2, .int (nI y))] := hl
  have hin3 : ∀ w ∈ u_ws RX3 TX3 20, w ∈ wsX3_areNoRooms := by decide +kernel
  have hf43 := hts (.fieldLink RX3 43 "DoorChaseModel" "rooms" "I") (by decide +kernel)
  refine lv_aload_n hx hb dX3_areNoRooms_0 rfl (lv_at hl 0 rfl) ?_
  refine lv_iload_n hx hb dX3_areNoRooms_1 rfl (lv_at hl 1 rfl) ?_
  have hFc := va_free (wc := pR cZ cI b th ro tn on cg ct mo ea (fun _ => false) T) hD hS hA [0, 1, 2, 3, 4, 5, 6, 7, 8] rfl
  refine va_calli (va_runV (As := [.int (nI x)]) (rest := []) ⟨hx, hb, hml, hown, hts⟩ (r_X3_isNoRoom l D cZ cI b th ro tn on cg ct mo ea T s.heap.size x (by first | assumption | omega) (by first | assumption | omega)) (cwV 1 hts gX3_areNoRooms_X3_isNoRoom rfl rfl rfl (by decide +kernel) ⟨Nat.le_of_ble_eq_true rfl, Nat.le_of_ble_eq_true rfl⟩) ⟨WrP_blind, va_recv hZ.1 hP (ci := 3) (q0 := 0) rfl rfl, WrP_start hP hD hZ⟩ rfl rfl hl.1 rfl (lv_room (Nat.le_of_ble_eq_true rfl)) dX3_areNoRooms_2 ⟨Nat.le_of_ble_eq_true rfl, Nat.le_of_ble_eq_true rfl⟩) hS (fun q _ h => hFc q h) hFc (fun r9 u t H1 locs ht hvm hw hB hz1 hk1 hS => ?_)
  obtain ⟨hP, hD⟩ := hB
  rw [ht] at hP
  replace hD := hD.weaken (fun _ _ _ h => hFc _ h)
  generalize H1 = H at hP hS ⊢
  have hP : va_P D vwCl (pR cZ cI b 0 ro tn on cg ct mo ea (fun _ => false) T) H := hP
  have hD : va_D A (pR cZ cI b 0 ro tn on cg ct mo ea (fun _ => false) T) := hD
  subst hw
  refine rv_top (show _ = bI false from rfl) ?_
  refine rv_ifneB (tgt := 35) hx hb dX3_areNoRooms_5 (by decide) (fun c5_1 => ?_) (fun c5_1 => ?_)
  · skip
    exact Bool.noConfusion c5_1
  · skip
    refine lv_aload_n hx hb dX3_areNoRooms_8 rfl (lv_at hl 0 rfl) ?_
    refine lv_iload_n hx hb dX3_areNoRooms_9 rfl (lv_at hl 2 rfl) ?_
    refine lv_iconst (v := nI 0) hx hb dX3_areNoRooms_10 (by decide) ?_
    refine lv_aload_n hx hb dX3_areNoRooms_11 rfl (lv_at hl 0 rfl) ?_
    refine va_get (D := D) (ci := 3) (v := .int (nI ro)) (C := RX3) (T := TX3) (N := 20) hx hb hts hin3 hown hZ.1 hP 0 rfl rfl 1 (by decide) hf43 (fun _ h9 => h9) rfl dX3_areNoRooms_12 ?_
    refine lv_iconst (v := nI 1) hx hb dX3_areNoRooms_15 (by decide) ?_
    refine rv_sub hx hb (by omega) dX3_areNoRooms_16 ?_
    refine vp_callSi (va_runS (As := [.int (nI y), .int (nI 0), .int (nI (ro - 1))]) (rest := [.ref (b 0)]) ⟨hx, hb, hml, hown, hts⟩ (r_X3_isIn l D cZ cI   (nI y) (nI 0) (nI (ro - 1)) ) (va_cwS 3 hts gX3_areNoRooms_X3_isIn rfl rfl rfl (by decide +kernel) ⟨Nat.le_of_ble_eq_true rfl, Nat.le_of_ble_eq_true rfl⟩) ⟨RdP_blind, RdP_start (hP.sub (ws' := []) [] rfl) hZ⟩ rfl rfl hl.1 rfl (lv_room (Nat.le_of_ble_eq_true rfl)) dX3_areNoRooms_17 ⟨Nat.le_of_ble_eq_true rfl, Nat.le_of_ble_eq_true rfl⟩).run (fun r_2 hr_3 => ?_)
    subst hr_3
    refine rv_top (show _ = bI (decide ((nI 0) ≤ (nI y)) && decide ((nI y) ≤ (nI (ro - 1)))) from rfl) ?_
    refine rv_top (congrArg bI (isIn_N hyr hro)) ?_
    refine rv_ifneB (tgt := 27) hx hb dX3_areNoRooms_20 (by decide) (fun c20_4 => ?_) (fun c20_4 => ?_)
    · skip
      refine lv_iconst (v := nI 0) hx hb dX3_areNoRooms_27 (by decide) ?_
      refine rv_top (show nI 0 = bI false from rfl) ?_
      refine lv_iconst (v := nI 1) hx hb dX3_areNoRooms_28 (by decide) ?_
      have hFc := va_free (wc := pR cZ cI b 0 ro tn on cg ct mo ea (fun _ => false) T) hD hS hA [0, 1, 2, 3, 4, 5, 6, 7, 8] rfl
      refine va_calli (va_runV (As := [.int (bI false), .int (nI 1)]) (rest := []) ⟨hx, hb, hml, hown, hts⟩ (r_X3_refuse l D cZ cI b ro tn on cg ct mo ea T H.size 1 ) (cwV 2 hts gX3_areNoRooms_X3_refuse rfl rfl rfl (by decide +kernel) ⟨Nat.le_of_ble_eq_true rfl, Nat.le_of_ble_eq_true rfl⟩) ⟨WrP_blind, va_recv hZ.1 hP (ci := 3) (q0 := 0) rfl rfl, WrP_start hP hD hZ⟩ rfl rfl hl.1 rfl (lv_room (Nat.le_of_ble_eq_true rfl)) dX3_areNoRooms_29 ⟨Nat.le_of_ble_eq_true rfl, Nat.le_of_ble_eq_true rfl⟩) hS (fun q _ h => hFc q h) hFc (fun r9 u t H1 locs ht hvm hw hB hz1 hk1 hS => ?_)
      obtain ⟨hP, hD⟩ := hB
      rw [ht] at hP
      replace hD := hD.weaken (fun _ _ _ h => hFc _ h)
      generalize H1 = H at hP hS ⊢
      have hP : va_P D vwCl (pR cZ cI b 0 ro tn on cg ct mo ea (fun _ => false) T) H := hP
      have hD : va_D A (pR cZ cI b 0 ro tn on cg ct mo ea (fun _ => false) T) := hD
      subst hw
      refine rv_top (show _ = bI false from rfl) ?_
      refine rv_ifeqB (tgt := 39) hx hb dX3_areNoRooms_32 (by decide) (fun c32_5 => ?_) (fun c32_5 => ?_)
      · skip
        refine lv_iconst (v := nI 0) hx hb dX3_areNoRooms_39 (by decide) ?_
        refine rv_top (show nI 0 = bI false from rfl) ?_
        have hP9 : va_P D vwCl (pR cZ cI b 0 ro tn on cg ct mo ea (fun _ => false) T) H := by exact hP
        have hD9 : va_D A (pR cZ cI b 0 ro tn on cg ct mo ea (fun _ => false) T) := by exact hD
        exact W.zret (v := bI false) hx hb hr (nr_bI _) (fun t ht hW => ⟨⟨_, (), rfl, (show bI false = bI false from rfl), by rw [ht]; exact hP9, hD9⟩, hS.F ht⟩) hS.2.2 dX3_areNoRooms_40
      · skip
        exact Bool.noConfusion c32_5
    · skip
      exact Bool.noConfusion c20_4

set_option maxHeartbeats 4000000 in
set_option maxRecDepth 100000 in
theorem r_X3_addRoom (l : Launch) (D : va_G) (cZ cI : ClassId) (b : Nat → Nat) (th : Nat) (ro : Nat) (tn : Nat) (on : Bool) (cg : Bool) (ct : Nat) (mo : Nat) (ea : Nat) (T : Nat → Nat → Nat → Option Nat) (sz : Nat)  (hro : ro < 8) : Met l yX3_addRoom wsX3_addRoom ({ frames := 2, cells := 0, slots := 0, locals := 44 }) (WrP D cZ cI [.ref (b 0), .int (bI false)] (pR cZ cI b th ro tn on cg ct mo ea (fun _ => false) T) sz) (WrI D (pR cZ cI b 0 (ro + 1) tn on cg ct mo ea (fun _ => false) T) (va_A (pR cZ cI b th ro tn on cg ct mo ea (fun _ => false) T) sz) (nI (ro + 1 - 1))) 0 0 (va_A (pR cZ cI b th ro tn on cg ct mo ea (fun _ => false) T) sz) := by
  refine Met.ofW (cc := cX3_addRoom) (maxL := 2) (ret := (some .int)) (by decide) rfl ?_
  intro p e s m args below meth c s₁ B hml hv
  obtain ⟨rfl, hsz, hP, hZ, hD0⟩ := hv
  have hx := B.exec
  have hb := B.bytes
  have hr := B.returns
  have hts := atoms_spec (ws := wsX3_addRoom) B.pre
  have hown : s.vm.findClass RX3 = some m.cls := findClass_of_methodNamed B.named
  have hlocks := B.notSynchronized
  subst hsz
  have hD := hD0.self (sz := s.heap.size)
  generalize hAe : va_A (pR cZ cI b th ro tn on cg ct mo ea (fun _ => false) T) s.heap.size = A at hD ⊢
  have hA : ∀ q : Nat, s.heap.size ≤ q → A q := fun q h => by rw [← hAe]; exact Or.inr h
  have hS : va_S A s.heap s.heap [] := va_S.rf
  have hP : va_P D vwCl (pR cZ cI b th ro tn on cg ct mo ea (fun _ => false) T) s.heap := hP
  have hl := lv_entry ([.ref (b 0), .int (bI false)]) (n := 2) (Nat.le_of_ble_eq_true rfl)
  rw [lg_entry_eq]
  generalize (lg_sl ([.ref (b 0), .int (bI false)]) ++ List.replicate (2 - (lg_sl ([.ref (b 0), .int (bI false)])).length) Slot.unset).toArray = ls at hl ⊢
  have hl : lv_has ls 2 [(0, .ref (b 0)), (1, .int (bI false))] := hl
  have hin3 : ∀ w ∈ u_ws RX3 TX3 20, w ∈ wsX3_addRoom := by decide +kernel
  have hf9 := hts (.fieldLink RX3 9 "DoorChaseModel" "safe" "[Z") (by decide +kernel)
  have hf43 := hts (.fieldLink RX3 43 "DoorChaseModel" "rooms" "I") (by decide +kernel)
  refine lv_aload_n hx hb dX3_addRoom_0 rfl (lv_at hl 0 rfl) ?_
  refine lv_aload_n hx hb dX3_addRoom_1 rfl (lv_at hl 0 rfl) ?_
  refine va_get (D := D) (ci := 3) (v := .int (nI ro)) (C := RX3) (T := TX3) (N := 20) hx hb hts hin3 hown hZ.1 hP 0 rfl rfl 1 (by decide) hf43 (fun _ h9 => h9) rfl dX3_addRoom_2 ?_
  refine lv_bipush (v := nI 8) hx hb dX3_addRoom_5 (by decide) ?_
  refine rv_ne (tgt := 14) hx hb (by omega) (by omega) dX3_addRoom_7 (by decide) (fun c7_1 => ?_) (fun c7_1 => ?_)
  · skip
    refine lv_iconst (v := nI 0) hx hb dX3_addRoom_14 (by decide) ?_
    refine rv_top (show nI 0 = bI false from rfl) ?_
    refine lv_iconst (v := nI 1) hx hb dX3_addRoom_15 (by decide) ?_
    have hFc := va_free (wc := pR cZ cI b th ro tn on cg ct mo ea (fun _ => false) T) hD hS hA [0, 1, 2, 3, 4, 5, 6, 7, 8] rfl
    refine va_calli (va_runV (As := [.int (bI false), .int (nI 1)]) (rest := []) ⟨hx, hb, hml, hown, hts⟩ (r_X3_start l D cZ cI b th ro tn on cg ct mo ea T s.heap.size 1 ) (cwV 2 hts gX3_addRoom_X3_start rfl rfl rfl (by decide +kernel) ⟨Nat.le_of_ble_eq_true rfl, Nat.le_of_ble_eq_true rfl⟩) ⟨WrP_blind, va_recv hZ.1 hP (ci := 3) (q0 := 0) rfl rfl, WrP_start hP hD hZ⟩ rfl rfl hl.1 rfl (lv_room (Nat.le_of_ble_eq_true rfl)) dX3_addRoom_16 ⟨Nat.le_of_ble_eq_true rfl, Nat.le_of_ble_eq_true rfl⟩) hS (fun q _ h => hFc q h) hFc (fun r9 u t H1 locs ht hvm hw hB hz1 hk1 hS => ?_)
    obtain ⟨hP, hD⟩ := hB
    rw [ht] at hP
    replace hD := hD.weaken (fun _ _ _ h => hFc _ h)
    generalize H1 = H at hP hS ⊢
    have hP : va_P D vwCl (pR cZ cI b 0 ro tn on cg ct mo ea (fun _ => false) T) H := hP
    have hD : va_D A (pR cZ cI b 0 ro tn on cg ct mo ea (fun _ => false) T) := hD
    subst hw
    refine rv_top (show _ = bI false from rfl) ?_
    refine rv_ifeqB (tgt := 24) hx hb dX3_addRoom_19 (by decide) (fun c19_2 => ?_) (fun c19_2 => ?_)
    · skip
      refine lv_aload_n hx hb dX3_addRoom_24 rfl (lv_at hl 0 rfl) ?_
      refine va_get (D := D) (ci := 3) (v := .ref (b 1)) (C := RX3) (T := TX3) (N := 20) hx hb hts hin3 hown hZ.1 hP 0 rfl rfl 3 (by decide) hf9 (fun _ h9 => h9) rfl dX3_addRoom_25 ?_
      refine lv_aload_n hx hb dX3_addRoom_28 rfl (lv_at hl 0 rfl) ?_
      refine va_get (D := D) (ci := 3) (v := .int (nI ro)) (C := RX3) (T := TX3) (N := 20) hx hb hts hin3 hown hZ.1 hP 0 rfl rfl 1 (by decide) hf43 (fun _ h9 => h9) rfl dX3_addRoom_29 ?_
      refine lv_iload_n hx hb dX3_addRoom_32 rfl (lv_at hl 1 rfl) ?_
      refine rv_zast hx hb hZ.1 hP hD hS 1 0 rfl rfl (r := ro) (by omega) (by decide) (encB_up _ _ _) dX3_addRoom_33 (fun H locs hP hD hS => ?_)
      have hP : va_P D vwCl (pR cZ cI b 0 ro tn on cg ct mo ea (va_up (fun _ => false) ro false) T) H := hP
      have hD : va_D A (pR cZ cI b 0 ro tn on cg ct mo ea (va_up (fun _ => false) ro false) T) := hD
      refine lv_aload_n hx hb dX3_addRoom_34 rfl (lv_at hl 0 rfl) ?_
      refine lv_dup hx hb dX3_addRoom_35 rfl ?_
      refine va_get (D := D) (ci := 3) (v := .int (nI ro)) (C := RX3) (T := TX3) (N := 20) hx hb hts hin3 hown hZ.1 hP 0 rfl rfl 1 (by decide) hf43 (fun _ h9 => h9) rfl dX3_addRoom_36 ?_
      refine lv_iconst (v := nI 1) hx hb dX3_addRoom_39 (by decide) ?_
      refine rv_add hx hb dX3_addRoom_40 ?_
      refine va_put (D := D) (ci := 3) (v := .int (nI (ro + 1))) (ty := .int) (C := RX3) (T := TX3) (N := 20) hx hb hts hin3 tyX3 tyX3_ok nmX3 hown hZ.1 hP hD hS 0 rfl rfl 1 (by decide) hf43 (fun _ h9 => h9) rfl (by decide +kernel) rfl rfl (Nat.le_of_ble_eq_true rfl) dX3_addRoom_41 (fun H locs hP hD hS => ?_)
      have hP : va_P D vwCl (pR cZ cI b 0 (ro + 1) tn on cg ct mo ea (va_up (fun _ => false) ro false) T) H := hP
      have hD : va_D A (pR cZ cI b 0 (ro + 1) tn on cg ct mo ea (va_up (fun _ => false) ro false) T) := hD
      refine lv_aload_n hx hb dX3_addRoom_44 rfl (lv_at hl 0 rfl) ?_
      refine va_get (D := D) (ci := 3) (v := .int (nI (ro + 1))) (C := RX3) (T := TX3) (N := 20) hx hb hts hin3 hown hZ.1 hP 0 rfl rfl 1 (by decide) hf43 (fun _ h9 => h9) rfl dX3_addRoom_45 ?_
      refine lv_iconst (v := nI 1) hx hb dX3_addRoom_48 (by decide) ?_
      refine rv_sub hx hb (by omega) dX3_addRoom_49 ?_
      have hP9 : va_P D vwCl (pR cZ cI b 0 (ro + 1) tn on cg ct mo ea (fun _ => false) T) H := by (rw [show va_up (fun _ => false) ro false = (fun _ => false) from va_up_ff _] at hP; exact hP)
      have hD9 : va_D A (pR cZ cI b 0 (ro + 1) tn on cg ct mo ea (fun _ => false) T) := by (rw [show va_up (fun _ => false) ro false = (fun _ => false) from va_up_ff _] at hD; exact hD)
      exact W.iret (v := nI ((ro + 1) - 1)) hx hb hr (fun t ht hW => ⟨⟨_, (), rfl, rfl, by rw [ht]; exact hP9, hD9⟩, hS.F ht⟩) hS.2.2 dX3_addRoom_50
    · skip
      exact Bool.noConfusion c19_2
  · skip
    exfalso; omega

set_option maxHeartbeats 4000000 in
set_option maxRecDepth 100000 in
theorem r_X3_between (l : Launch) (D : va_G) (cZ cI : ClassId) (b : Nat → Nat) (th : Nat) (ro : Nat) (tn : Nat) (on : Bool) (cg : Bool) (ct : Nat) (mo : Nat) (ea : Nat) (T : Nat → Nat → Nat → Option Nat)  (x : Nat) (y : Nat)  : Met l yX3_between wsX3_between ({ frames := 0, cells := 0, slots := 0, locals := 0 }) (RdP D cZ cI [.ref (b 0), .int (nI x), .int (nI y)] (pR cZ cI b th ro tn on cg ct mo ea (fun _ => false) T)) (vp_Si (fun r0 => r0 = (-1))) 0 0 (fun _ => False) := by
  refine Met.ofW (cc := cX3_between) (maxL := 4) (ret := (some .int)) (by decide) rfl ?_
  intro p e s m args below meth c s₁ B hml hv
  obtain ⟨rfl, hP, hZ⟩ := hv
  have hx := B.exec
  have hb := B.bytes
  have hr := B.returns
  have hts := atoms_spec (ws := wsX3_between) B.pre
  have hown : s.vm.findClass RX3 = some m.cls := findClass_of_methodNamed B.named
  have hlocks := B.notSynchronized
  have hP : va_P D vwCl (pR cZ cI b th ro tn on cg ct mo ea (fun _ => false) T) s.heap := hP
  have hl := lv_entry ([.ref (b 0), .int (nI x), .int (nI y)]) (n := 4) (Nat.le_of_ble_eq_true rfl)
  rw [lg_entry_eq]
  generalize (lg_sl ([.ref (b 0), .int (nI x), .int (nI y)]) ++ List.replicate (4 - (lg_sl ([.ref (b 0), .int (nI x), .int (nI y)])).length) Slot.unset).toArray = ls at hl ⊢
  have hl : lv_has ls 4 [(0, .ref (b 0)), (1, .int (nI x)), (2, .int (nI y))] := hl
  have hin3 : ∀ w ∈ u_ws RX3 TX3 20, w ∈ wsX3_between := by decide +kernel
  have hf17 := hts (.fieldLink RX3 17 "DoorChaseModel" "one" "[I") (by decide +kernel)
  have hf20 := hts (.fieldLink RX3 20 "DoorChaseModel" "other" "[I") (by decide +kernel)
  have hf57 := hts (.fieldLink RX3 57 "DoorChaseModel" "doors" "I") (by decide +kernel)
  refine lv_iconst (v := nI 0) hx hb dX3_between_0 (by decide) ?_
  refine lv_istore_n (lv' := [(3, .int (nI 0)), (0, .ref (b 0)), (1, .int (nI x)), (2, .int (nI y))]) hx hb dX3_between_1 rfl hl (by decide) rfl (fun ls hl => ?_)
  refine lv_iload_n hx hb dX3_between_2 rfl (lv_at hl 0 rfl) ?_
  refine lv_aload_n hx hb dX3_between_3 rfl (lv_at hl 1 rfl) ?_
  refine va_get (D := D) (ci := 3) (v := .int (nI 0)) (C := RX3) (T := TX3) (N := 20) hx hb hts hin3 hown hZ.1 hP 0 rfl rfl 2 (by decide) hf57 (fun _ h9 => h9) rfl dX3_between_4 ?_
  refine rv_ge (tgt := 58) hx hb (by omega) (by omega) dX3_between_7 (by decide) (fun c7_1 => ?_) (fun c7_1 => ?_)
  · skip
    refine lv_iconst (v := (-1)) hx hb dX3_between_58 (by decide) ?_
    exact W.iret (v := (-1)) hx hb hr (fun t ht hW => ⟨_, rfl, rfl, ht⟩) (fun q h => absurd h List.not_mem_nil) dX3_between_59
  · skip
    exfalso; omega

set_option maxHeartbeats 4000000 in
set_option maxRecDepth 100000 in
theorem r_X3_isWay (l : Launch) (D : va_G) (cZ cI : ClassId) (b : Nat → Nat) (th : Nat) (ro : Nat) (tn : Nat) (on : Bool) (cg : Bool) (ct : Nat) (mo : Nat) (ea : Nat) (T : Nat → Nat → Nat → Option Nat)  (x : Nat) (y : Nat) (t : Nat) (hx8 : x < 8) (hy8 : y < 8) : Met l yX3_isWay wsX3_isWay ({ frames := 1, cells := 0, slots := 0, locals := 23 }) (RdP D cZ cI [.ref (b 0), .int (nI x), .int (nI y), .int (nI t)] (pR cZ cI b th ro tn on cg ct mo ea (fun _ => false) T)) (vp_Si (fun r0 => r0 = bI (decide (x = y)))) 0 0 (fun _ => False) := by
  refine Met.ofW (cc := cX3_isWay) (maxL := 4) (ret := (some .boolean)) (by decide) rfl ?_
  intro p e s m args below meth c s₁ B hml hv
  obtain ⟨rfl, hP, hZ⟩ := hv
  have hx := B.exec
  have hb := B.bytes
  have hr := B.returns
  have hts := atoms_spec (ws := wsX3_isWay) B.pre
  have hown : s.vm.findClass RX3 = some m.cls := findClass_of_methodNamed B.named
  have hlocks := B.notSynchronized
  have hP : va_P D vwCl (pR cZ cI b th ro tn on cg ct mo ea (fun _ => false) T) s.heap := hP
  have hl := lv_entry ([.ref (b 0), .int (nI x), .int (nI y), .int (nI t)]) (n := 4) (Nat.le_of_ble_eq_true rfl)
  rw [lg_entry_eq]
  generalize (lg_sl ([.ref (b 0), .int (nI x), .int (nI y), .int (nI t)]) ++ List.replicate (4 - (lg_sl ([.ref (b 0), .int (nI x), .int (nI y), .int (nI t)])).length) Slot.unset).toArray = ls at hl ⊢
  have hl : lv_has ls 4 [(0, .ref (b 0)), (1, .int (nI x)), (2, .int (nI y)), (3, .int (nI t))] := hl
  refine lv_iload_n hx hb dX3_isWay_0 rfl (lv_at hl 1 rfl) ?_
  refine lv_iload_n hx hb dX3_isWay_1 rfl (lv_at hl 2 rfl) ?_
  refine rv_eq (tgt := 28) hx hb (by omega) (by omega) dX3_isWay_2 (by decide) (fun c2_1 => ?_) (fun c2_1 => ?_)
  · skip
    refine lv_iconst (v := nI 1) hx hb dX3_isWay_28 (by decide) ?_
    refine lv_goto (tgt := 33) hx hb dX3_isWay_29 (by decide) ?_
    exact W.zret (v := nI 1) hx hb hr rfl (fun t ht hW => ⟨_, rfl, (show nI 1 = bI (decide (x = y)) from by rw [decide_eq_true (by assumption)]; rfl), ht⟩) (fun q h => absurd h List.not_mem_nil) dX3_isWay_33
  · skip
    refine lv_aload_n hx hb dX3_isWay_5 rfl (lv_at hl 0 rfl) ?_
    refine lv_iload_n hx hb dX3_isWay_6 rfl (lv_at hl 1 rfl) ?_
    refine lv_iload_n hx hb dX3_isWay_7 rfl (lv_at hl 2 rfl) ?_
    refine vp_callSi (va_runV (As := [.int (nI x), .int (nI y)]) (rest := []) ⟨hx, hb, hml, hown, hts⟩ (r_X3_between l D cZ cI b th ro tn on cg ct mo ea T  x y ) (cwV 2 hts gX3_isWay_X3_between rfl rfl rfl (by decide +kernel) ⟨Nat.le_of_ble_eq_true rfl, Nat.le_of_ble_eq_true rfl⟩) ⟨RdP_blind, va_recv hZ.1 hP (ci := 3) (q0 := 0) rfl rfl, RdP_start (hP.sub (ws' := pR cZ cI b th ro tn on cg ct mo ea (fun _ => false) T) [0, 1, 2, 3, 4, 5, 6, 7, 8] rfl) hZ⟩ rfl rfl hl.1 rfl (lv_room (Nat.le_of_ble_eq_true rfl)) dX3_isWay_8 ⟨Nat.le_of_ble_eq_true rfl, Nat.le_of_ble_eq_true rfl⟩).run (fun r_2 hr_3 => ?_)
    subst hr_3
    refine rv_top (show _ = (-1) from rfl) ?_
    refine lv_if_lt (tgt := 32) hx hb dX3_isWay_11 (by decide) (fun c11_4 => ?_) (fun c11_4 => ?_)
    · skip
      refine lv_iconst (v := nI 0) hx hb dX3_isWay_32 (by decide) ?_
      exact W.zret (v := nI 0) hx hb hr rfl (fun t ht hW => ⟨_, rfl, (show nI 0 = bI (decide (x = y)) from by rw [decide_eq_false (by assumption)]; rfl), ht⟩) (fun q h => absurd h List.not_mem_nil) dX3_isWay_33
    · skip
      exact absurd c11_4 (by decide)

set_option maxHeartbeats 4000000 in
set_option maxRecDepth 100000 in
theorem r_X3_place (l : Launch) (D : va_G) (cZ cI : ClassId)   (t : Nat) (x : Nat) (y : Nat) (ht : t < 2 ^ 30) : Met l yX3_place wsX3_place ({ frames := 0, cells := 0, slots := 0, locals := 0 }) (RdP D cZ cI [.int (nI t), .int (nI x), .int (nI y)] ([])) (vp_Si (fun r0 => r0 = nI ((t % 12 * 8 + x) * 8 + y))) 0 0 (fun _ => False) := by
  refine Met.ofW (cc := cX3_place) (maxL := 3) (ret := (some .int)) (by decide) rfl ?_
  intro p e s m args below meth c s₁ B hml hv
  obtain ⟨rfl, hP, hZ⟩ := hv
  have hx := B.exec
  have hb := B.bytes
  have hr := B.returns
  have hts := atoms_spec (ws := wsX3_place) B.pre
  have hown : s.vm.findClass RX3 = some m.cls := findClass_of_methodNamed B.named
  have hlocks := B.notSynchronized
  have hP : va_P D vwCl ([]) s.heap := hP
  have hl := lv_entry ([.int (nI t), .int (nI x), .int (nI y)]) (n := 3) (Nat.le_of_ble_eq_true rfl)
  rw [lg_entry_eq]
  generalize (lg_sl ([.int (nI t), .int (nI x), .int (nI y)]) ++ List.replicate (3 - (lg_sl ([.int (nI t), .int (nI x), .int (nI y)])).length) Slot.unset).toArray = ls at hl ⊢
  have hl : lv_has ls 3 [(0, .int (nI t)), (1, .int (nI x)), (2, .int (nI y))] := hl
  refine lv_iload_n hx hb dX3_place_0 rfl (lv_at hl 0 rfl) ?_
  refine lv_bipush (v := nI 12) hx hb dX3_place_1 (by decide) ?_
  refine rv_rem hx hb (by omega) (by omega) (by omega) dX3_place_3 ?_
  refine lv_bipush (v := nI 8) hx hb dX3_place_4 (by decide) ?_
  refine rv_mul hx hb dX3_place_6 ?_
  refine lv_iload_n hx hb dX3_place_7 rfl (lv_at hl 1 rfl) ?_
  refine rv_add hx hb dX3_place_8 ?_
  refine lv_bipush (v := nI 8) hx hb dX3_place_9 (by decide) ?_
  refine rv_mul hx hb dX3_place_11 ?_
  refine lv_iload_n hx hb dX3_place_12 rfl (lv_at hl 2 rfl) ?_
  refine rv_add hx hb dX3_place_13 ?_
  exact W.iret (v := nI (((t % 12) * 8 + x) * 8 + y)) hx hb hr (fun t ht hW => ⟨_, rfl, rfl, ht⟩) (fun q h => absurd h List.not_mem_nil) dX3_place_14

set_option maxHeartbeats 4000000 in
set_option maxRecDepth 100000 in
theorem r_X3_comes (l : Launch) (D : va_G) (cZ cI : ClassId) (b : Nat → Nat) (th : Nat) (tn : Nat) (on : Bool) (cg : Bool) (ct : Nat) (mo : Nat) (ea : Nat) (T : Nat → Nat → Nat → Option Nat) (a9 : Nat) (w : Nat → Nat → Nat → Bool)  (t : Nat) (x : Nat) (y : Nat) (hok : sOk T w) (ht : t < 12) (hx2 : x < 2) (hy2 : y < 2) (hxy : ¬ x = y) : Met l yX3_comes wsX3_comes ({ frames := 1, cells := 0, slots := 0, locals := 22 }) (RdP D cZ cI [.ref (b 0), .ref a9, .int (nI t), .int (nI x), .int (nI y), .int (nI 1)] (pR cZ cI b th 2 tn on cg ct mo ea (fun _ => false) T ++ [(a9, .inl (cZ, 768, .inl (encV w)))])) (vp_Si (fun r0 => r0 = bI false)) 0 0 (fun _ => False) := by
  refine Met.ofW (cc := cX3_comes) (maxL := 9) (ret := (some .boolean)) (by decide) rfl ?_
  intro p e s m args below meth c s₁ B hml hv
  obtain ⟨rfl, hP, hZ⟩ := hv
  have hx := B.exec
  have hb := B.bytes
  have hr := B.returns
  have hts := atoms_spec (ws := wsX3_comes) B.pre
  have hown : s.vm.findClass RX3 = some m.cls := findClass_of_methodNamed B.named
  have hlocks := B.notSynchronized
  have hP : va_P D vwCl (pR cZ cI b th 2 tn on cg ct mo ea (fun _ => false) T ++ [(a9, .inl (cZ, 768, .inl (encV w)))]) s.heap := hP
  have hl := lv_entry ([.ref (b 0), .ref a9, .int (nI t), .int (nI x), .int (nI y), .int (nI 1)]) (n := 9) (Nat.le_of_ble_eq_true rfl)
  rw [lg_entry_eq]
  generalize (lg_sl ([.ref (b 0), .ref a9, .int (nI t), .int (nI x), .int (nI y), .int (nI 1)]) ++ List.replicate (9 - (lg_sl ([.ref (b 0), .ref a9, .int (nI t), .int (nI x), .int (nI y), .int (nI 1)])).length) Slot.unset).toArray = ls at hl ⊢
  have hl : lv_has ls 9 [(0, .ref (b 0)), (1, .ref a9), (2, .int (nI t)), (3, .int (nI x)), (4, .int (nI y)), (5, .int (nI 1))] := hl
  have hin3 : ∀ w ∈ u_ws RX3 TX3 20, w ∈ wsX3_comes := by decide +kernel
  have hf9 := hts (.fieldLink RX3 9 "DoorChaseModel" "safe" "[Z") (by decide +kernel)
  have hf32 := hts (.fieldLink RX3 32 "DoorChaseModel" "sure" "[I") (by decide +kernel)
  have hf43 := hts (.fieldLink RX3 43 "DoorChaseModel" "rooms" "I") (by decide +kernel)
  refine lv_iconst (v := nI 0) hx hb dX3_comes_0 (by decide) ?_
  refine rv_top (show nI 0 = bI false from rfl) ?_
  refine lv_istore (lv' := [(6, .int (bI false)), (0, .ref (b 0)), (1, .ref a9), (2, .int (nI t)), (3, .int (nI x)), (4, .int (nI y)), (5, .int (nI 1))]) hx hb dX3_comes_1 hl (by decide) rfl (fun ls hl => ?_)
  refine lv_iconst (v := nI 0) hx hb dX3_comes_3 (by decide) ?_
  refine lv_istore (lv' := [(7, .int (nI 0)), (6, .int (bI false)), (0, .ref (b 0)), (1, .ref a9), (2, .int (nI t)), (3, .int (nI x)), (4, .int (nI y)), (5, .int (nI 1))]) hx hb dX3_comes_4 hl (by decide) rfl (fun ls hl => ?_)
  have loop6 : ∀ (n : Nat) (r : Nat), 2 + 1 ≤ r + n → (r ≤ 2) → ∀ (ls : Array Slot), lv_has ls 9 [(0, .ref (b 0)), (1, .ref a9), (2, .int (nI t)), (3, .int (nI x)), (4, .int (nI y)), (5, .int (nI 1)), (6, .int (bI false)), (7, .int (nI r))] → W p l e (headSpec wsX3_comes ({ frames := 1, cells := 0, slots := 0, locals := 22 })).room s m ([.ref (b 0), .ref a9, .int (nI t), .int (nI x), .int (nI y), .int (nI 1)] : List Value).toArray below meth c s.heap [] 0 0 (MQ below (vp_Si (fun r0 => r0 = bI false)) ([.ref (b 0), .ref a9, .int (nI t), .int (nI x), .int (nI y), .int (nI 1)] : List Value).toArray s 0 0 (fun _ => False)) (F0 m 6 ls []) := by
    intro n
    induction n with
    | zero =>
      intro r hmeas hr2 ls hl
      exact absurd hmeas (by omega)
    | succ n ih6 =>
      intro r hmeas hr2 ls hl
      refine lv_iload hx hb dX3_comes_6 (lv_at hl 7 rfl) ?_
      refine lv_aload_n hx hb dX3_comes_8 rfl (lv_at hl 0 rfl) ?_
      refine va_get (D := D) (ci := 3) (v := .int (nI 2)) (C := RX3) (T := TX3) (N := 20) hx hb hts hin3 hown hZ.1 hP 0 rfl rfl 1 (by decide) hf43 (fun _ h9 => h9) rfl dX3_comes_9 ?_
      refine rv_ge (tgt := 147) hx hb (by omega) (by omega) dX3_comes_12 (by decide) (fun c12_1 => ?_) (fun c12_1 => ?_)
      · skip
        refine lv_iload hx hb dX3_comes_147 (lv_at hl 6 rfl) ?_
        exact W.zret (v := bI false) hx hb hr (nr_bI _) (fun t ht hW => ⟨_, rfl, (show bI false = bI false from rfl), ht⟩) (fun q h => absurd h List.not_mem_nil) dX3_comes_149
      · skip
        refine lv_iload_n hx hb dX3_comes_15 rfl (lv_at hl 2 rfl) ?_
        refine lv_iconst (v := nI 2) hx hb dX3_comes_16 (by decide) ?_
        refine rv_rem hx hb (by omega) (by omega) (by omega) dX3_comes_17 ?_
        refine lv_iconst (v := nI 1) hx hb dX3_comes_18 (by decide) ?_
        refine rv_ne (tgt := 79) hx hb (by omega) (by omega) dX3_comes_19 (by decide) (fun c19_2 => ?_) (fun c19_2 => ?_)
        · skip
          refine lv_aload_n hx hb dX3_comes_79 rfl (lv_at hl 1 rfl) ?_
          refine lv_iload_n hx hb dX3_comes_80 rfl (lv_at hl 2 rfl) ?_
          refine lv_iload hx hb dX3_comes_81 (lv_at hl 4 rfl) ?_
          refine lv_iload hx hb dX3_comes_83 (lv_at hl 7 rfl) ?_
          refine vp_callSi (va_runS (As := [.int (nI t), .int (nI y), .int (nI r)]) (rest := [.ref a9]) ⟨hx, hb, hml, hown, hts⟩ (r_X3_place l D cZ cI   t y r (by first | assumption | omega)) (va_cwS 3 hts gX3_comes_X3_place rfl rfl rfl (by decide +kernel) ⟨Nat.le_of_ble_eq_true rfl, Nat.le_of_ble_eq_true rfl⟩) ⟨RdP_blind, RdP_start (hP.sub (ws' := []) [] rfl) hZ⟩ rfl rfl hl.1 rfl (lv_room (Nat.le_of_ble_eq_true rfl)) dX3_comes_85 ⟨Nat.le_of_ble_eq_true rfl, Nat.le_of_ble_eq_true rfl⟩).run (fun r_3 hr_4 => ?_)
          subst hr_4
          refine rv_top (show _ = nI ((t % 12 * 8 + y) * 8 + r) from rfl) ?_
          refine rv_zald hx hb hZ.1 hP 9 0 rfl rfl (r := (t % 12 * 8 + y) * 8 + r) (by have := Nat.mod_lt (t) (show 0 < 12 by decide); omega) (by decide) (v := bI (w (t % 12) y r)) (encV_at _ (t % 12) (by omega) (by omega)) dX3_comes_88 ?_
          refine rv_ifeqB (tgt := 141) hx hb dX3_comes_89 (by decide) (fun c89_5 => ?_) (fun c89_5 => ?_)
          · skip
            refine lv_iinc (v := nI (r + 1)) (lv' := [(7, .int (nI (r + 1))), (0, .ref (b 0)), (1, .ref a9), (2, .int (nI t)), (3, .int (nI x)), (4, .int (nI y)), (5, .int (nI 1)), (6, .int (bI false))]) hx hb dX3_comes_141 hl (k := 7) rfl (nI_add r 1) (by decide) rfl (fun ls hl => ?_)
            refine lv_goto (tgt := 6) hx hb dX3_comes_144 (by decide) ?_
            exact ih6 (r + 1) (by omega) (by omega) ls (lv_sub hl [1, 2, 3, 4, 5, 6, 7, 0] rfl)
          · skip
            refine lv_aload_n hx hb dX3_comes_92 rfl (lv_at hl 0 rfl) ?_
            refine va_get (D := D) (ci := 3) (v := .ref (b 8)) (C := RX3) (T := TX3) (N := 20) hx hb hts hin3 hown hZ.1 hP 0 rfl rfl 16 (by decide) hf32 (fun _ h9 => h9) rfl dX3_comes_93 ?_
            refine lv_iload_n hx hb dX3_comes_96 rfl (lv_at hl 2 rfl) ?_
            refine lv_iconst (v := nI 1) hx hb dX3_comes_97 (by decide) ?_
            refine rv_add hx hb dX3_comes_98 ?_
            refine lv_iload_n hx hb dX3_comes_99 rfl (lv_at hl 3 rfl) ?_
            refine lv_iload hx hb dX3_comes_100 (lv_at hl 7 rfl) ?_
            refine vp_callSi (va_runS (As := [.int (nI (t + 1)), .int (nI x), .int (nI r)]) (rest := [.ref (b 8)]) ⟨hx, hb, hml, hown, hts⟩ (r_X3_place l D cZ cI   (t + 1) x r (by first | assumption | omega)) (va_cwS 3 hts gX3_comes_X3_place rfl rfl rfl (by decide +kernel) ⟨Nat.le_of_ble_eq_true rfl, Nat.le_of_ble_eq_true rfl⟩) ⟨RdP_blind, RdP_start (hP.sub (ws' := []) [] rfl) hZ⟩ rfl rfl hl.1 rfl (lv_room (Nat.le_of_ble_eq_true rfl)) dX3_comes_102 ⟨Nat.le_of_ble_eq_true rfl, Nat.le_of_ble_eq_true rfl⟩).run (fun r_6 hr_7 => ?_)
            subst hr_7
            refine rv_top (show _ = nI (((t + 1) % 12 * 8 + x) * 8 + r) from rfl) ?_
            refine rv_iald hx hb hZ.1 hP 8 1 rfl rfl (r := ((t + 1) % 12 * 8 + x) * 8 + r) (by have := Nat.mod_lt (t + 1) (show 0 < 12 by decide); omega) (by decide) (v := iO (T ((t + 1) % 12) x r)) (encT_at _ ((t + 1) % 12) (by omega) (by omega)) dX3_comes_105 ?_
            refine rv_top (show iO (T ((t + 1) % 12) x r) = (-1) from sOk_2 hok (by assumption) hx2 (by omega) hy2 hxy) ?_
            refine lv_istore (lv' := [(8, .int ((-1))), (0, .ref (b 0)), (1, .ref a9), (2, .int (nI t)), (3, .int (nI x)), (4, .int (nI y)), (5, .int (nI 1)), (6, .int (bI false)), (7, .int (nI r))]) hx hb dX3_comes_106 hl (by decide) rfl (fun ls hl => ?_)
            refine lv_iload hx hb dX3_comes_108 (lv_at hl 0 rfl) ?_
            refine lv_if_lt (tgt := 120) hx hb dX3_comes_110 (by decide) (fun c110_8 => ?_) (fun c110_8 => ?_)
            · skip
              refine lv_iconst (v := nI 0) hx hb dX3_comes_120 (by decide) ?_
              refine rv_top (show nI 0 = bI false from rfl) ?_
              exact W.zret (v := bI false) hx hb hr (nr_bI _) (fun t ht hW => ⟨_, rfl, (show bI false = bI false from rfl), ht⟩) (fun q h => absurd h List.not_mem_nil) dX3_comes_121
            · skip
              exact absurd c110_8 (by decide)
        · skip
          refine lv_aload_n hx hb dX3_comes_22 rfl (lv_at hl 0 rfl) ?_
          refine va_get (D := D) (ci := 3) (v := .ref (b 1)) (C := RX3) (T := TX3) (N := 20) hx hb hts hin3 hown hZ.1 hP 0 rfl rfl 3 (by decide) hf9 (fun _ h9 => h9) rfl dX3_comes_23 ?_
          refine lv_iload hx hb dX3_comes_26 (lv_at hl 7 rfl) ?_
          refine rv_zald hx hb hZ.1 hP 1 0 rfl rfl (r := r) (by omega) (by decide) (v := bI ((fun _ => false) r)) rfl dX3_comes_28 ?_
          refine rv_ifneB (tgt := 141) hx hb dX3_comes_29 (by decide) (fun c29_9 => ?_) (fun c29_9 => ?_)
          · skip
            exact Bool.noConfusion c29_9
          · skip
            refine lv_aload_n hx hb dX3_comes_32 rfl (lv_at hl 1 rfl) ?_
            refine lv_iload_n hx hb dX3_comes_33 rfl (lv_at hl 2 rfl) ?_
            refine lv_iload_n hx hb dX3_comes_34 rfl (lv_at hl 3 rfl) ?_
            refine lv_iload hx hb dX3_comes_35 (lv_at hl 7 rfl) ?_
            refine vp_callSi (va_runS (As := [.int (nI t), .int (nI x), .int (nI r)]) (rest := [.ref a9]) ⟨hx, hb, hml, hown, hts⟩ (r_X3_place l D cZ cI   t x r (by first | assumption | omega)) (va_cwS 3 hts gX3_comes_X3_place rfl rfl rfl (by decide +kernel) ⟨Nat.le_of_ble_eq_true rfl, Nat.le_of_ble_eq_true rfl⟩) ⟨RdP_blind, RdP_start (hP.sub (ws' := []) [] rfl) hZ⟩ rfl rfl hl.1 rfl (lv_room (Nat.le_of_ble_eq_true rfl)) dX3_comes_37 ⟨Nat.le_of_ble_eq_true rfl, Nat.le_of_ble_eq_true rfl⟩).run (fun r_10 hr_11 => ?_)
            subst hr_11
            refine rv_top (show _ = nI ((t % 12 * 8 + x) * 8 + r) from rfl) ?_
            refine rv_zald hx hb hZ.1 hP 9 0 rfl rfl (r := (t % 12 * 8 + x) * 8 + r) (by have := Nat.mod_lt (t) (show 0 < 12 by decide); omega) (by decide) (v := bI (w (t % 12) x r)) (encV_at _ (t % 12) (by omega) (by omega)) dX3_comes_40 ?_
            refine rv_ifeqB (tgt := 141) hx hb dX3_comes_41 (by decide) (fun c41_12 => ?_) (fun c41_12 => ?_)
            · skip
              refine lv_iinc (v := nI (r + 1)) (lv' := [(7, .int (nI (r + 1))), (0, .ref (b 0)), (1, .ref a9), (2, .int (nI t)), (3, .int (nI x)), (4, .int (nI y)), (5, .int (nI 1)), (6, .int (bI false))]) hx hb dX3_comes_141 hl (k := 7) rfl (nI_add r 1) (by decide) rfl (fun ls hl => ?_)
              refine lv_goto (tgt := 6) hx hb dX3_comes_144 (by decide) ?_
              exact ih6 (r + 1) (by omega) (by omega) ls (lv_sub hl [1, 2, 3, 4, 5, 6, 7, 0] rfl)
            · skip
              refine lv_iload hx hb dX3_comes_44 (lv_at hl 6 rfl) ?_
              refine lv_aload_n hx hb dX3_comes_46 rfl (lv_at hl 0 rfl) ?_
              refine va_get (D := D) (ci := 3) (v := .ref (b 8)) (C := RX3) (T := TX3) (N := 20) hx hb hts hin3 hown hZ.1 hP 0 rfl rfl 16 (by decide) hf32 (fun _ h9 => h9) rfl dX3_comes_47 ?_
              refine lv_iload_n hx hb dX3_comes_50 rfl (lv_at hl 2 rfl) ?_
              refine lv_iconst (v := nI 1) hx hb dX3_comes_51 (by decide) ?_
              refine rv_add hx hb dX3_comes_52 ?_
              refine lv_iload hx hb dX3_comes_53 (lv_at hl 7 rfl) ?_
              refine lv_iload hx hb dX3_comes_55 (lv_at hl 4 rfl) ?_
              refine vp_callSi (va_runS (As := [.int (nI (t + 1)), .int (nI r), .int (nI y)]) (rest := [.ref (b 8), .int (bI false)]) ⟨hx, hb, hml, hown, hts⟩ (r_X3_place l D cZ cI   (t + 1) r y (by first | assumption | omega)) (va_cwS 3 hts gX3_comes_X3_place rfl rfl rfl (by decide +kernel) ⟨Nat.le_of_ble_eq_true rfl, Nat.le_of_ble_eq_true rfl⟩) ⟨RdP_blind, RdP_start (hP.sub (ws' := []) [] rfl) hZ⟩ rfl rfl hl.1 rfl (lv_room (Nat.le_of_ble_eq_true rfl)) dX3_comes_57 ⟨Nat.le_of_ble_eq_true rfl, Nat.le_of_ble_eq_true rfl⟩).run (fun r_13 hr_14 => ?_)
              subst hr_14
              refine rv_top (show _ = nI (((t + 1) % 12 * 8 + r) * 8 + y) from rfl) ?_
              refine rv_iald hx hb hZ.1 hP 8 1 rfl rfl (r := ((t + 1) % 12 * 8 + r) * 8 + y) (by have := Nat.mod_lt (t + 1) (show 0 < 12 by decide); omega) (by decide) (v := iO (T ((t + 1) % 12) r y)) (encT_at _ ((t + 1) % 12) (by omega) (by omega)) dX3_comes_60 ?_
              refine rv_top (show iO (T ((t + 1) % 12) r y) = (-1) from sOk_1 hok (by assumption) hx2 (by omega) hy2 hxy) ?_
              refine lv_iload hx hb dX3_comes_61 (lv_at hl 5 rfl) ?_
              refine lv_iconst (v := nI 1) hx hb dX3_comes_63 (by decide) ?_
              refine rv_sub hx hb (by omega) dX3_comes_64 ?_
              refine lv_icmp_ne (tgt := 72) hx hb dX3_comes_65 (by decide) (fun c65_15 => ?_) (fun c65_15 => ?_)
              · skip
                refine lv_iconst (v := nI 0) hx hb dX3_comes_72 (by decide) ?_
                refine lv_ior hx hb dX3_comes_73 ?_
                refine rv_top (show bI false ||| nI 0 = bI false from by decide) ?_
                refine lv_istore (lv' := [(6, .int (bI false)), (0, .ref (b 0)), (1, .ref a9), (2, .int (nI t)), (3, .int (nI x)), (4, .int (nI y)), (5, .int (nI 1)), (7, .int (nI r))]) hx hb dX3_comes_74 hl (by decide) rfl (fun ls hl => ?_)
                refine lv_goto (tgt := 141) hx hb dX3_comes_76 (by decide) ?_
                refine lv_iinc (v := nI (r + 1)) (lv' := [(7, .int (nI (r + 1))), (6, .int (bI false)), (0, .ref (b 0)), (1, .ref a9), (2, .int (nI t)), (3, .int (nI x)), (4, .int (nI y)), (5, .int (nI 1))]) hx hb dX3_comes_141 hl (k := 7) rfl (nI_add r 1) (by decide) rfl (fun ls hl => ?_)
                refine lv_goto (tgt := 6) hx hb dX3_comes_144 (by decide) ?_
                exact ih6 (r + 1) (by omega) (by omega) ls (lv_sub hl [2, 3, 4, 5, 6, 7, 1, 0] rfl)
              · skip
                exact absurd c65_15 (by decide)
  exact loop6 (2 + 1) 0 (by omega) (by omega) ls (lv_sub hl [2, 3, 4, 5, 6, 7, 1, 0] rfl)

