set_option maxHeartbeats 4000000 in
set_option maxRecDepth 100000 in
theorem c_X3_thrown (l : Launch) (D : va_G) (cZ cI : ClassId) (b : Nat → Nat) (t0 : Nat) (g0 : Option Nat)    : Met l yX3_thrown wsX3_thrown ({ frames := 0, cells := 0, slots := 0, locals := 0 }) (RdP D cZ cI [.ref (b 0)] (pM cZ cI b t0 0 g0 (fun _ => false))) (vp_Si (fun r0 => r0 = nI t0)) 0 0 (fun _ => False) := by
  refine Met.ofW (cc := cX3_thrown) (maxL := 1) (ret := (some .int)) (by decide) rfl ?_
  intro p e s m args below meth c s₁ B hml hv
  obtain ⟨rfl, hP, hZ⟩ := hv
  have hx := B.exec
  have hb := B.bytes
  have hr := B.returns
  have hts := atoms_spec (ws := wsX3_thrown) B.pre
  have hown : s.vm.findClass RX3 = some m.cls := findClass_of_methodNamed B.named
  have hlocks := B.notSynchronized
  have hP : va_P D vwCl (pM cZ cI b t0 0 g0 (fun _ => false)) s.heap := hP
  have hl := lv_entry ([.ref (b 0)]) (n := 1) (Nat.le_of_ble_eq_true rfl)
  rw [lg_entry_eq]
  generalize (lg_sl ([.ref (b 0)]) ++ List.replicate (1 - (lg_sl ([.ref (b 0)])).length) Slot.unset).toArray = ls at hl ⊢
  have hl : lv_has ls 1 [(0, .ref (b 0))] := hl
  have hin3 : ∀ w ∈ u_ws RX3 TX3 20, w ∈ wsX3_thrown := by decide +kernel
  have hf35 := hts (.fieldLink RX3 35 "DoorChaseModel" "thrown" "I") (by decide +kernel)
  refine lv_aload_n hx hb dX3_thrown_0 rfl (lv_at hl 0 rfl) ?_
  refine va_get (D := D) (ci := 3) (v := .int (nI t0)) (C := RX3) (T := TX3) (N := 20) hx hb hts hin3 hown hZ.1 hP 0 rfl rfl 0 (by decide) hf35 (fun _ h9 => h9) rfl dX3_thrown_1 ?_
  exact W.iret (v := nI t0) hx hb hr (fun t ht hW => ⟨_, rfl, rfl, ht⟩) (fun q h => absurd h List.not_mem_nil) dX3_thrown_4

set_option maxHeartbeats 4000000 in
set_option maxRecDepth 100000 in
theorem c_X3_isIn (l : Launch) (D : va_G) (cZ cI : ClassId)   (v9 : Int32) (l9 : Int32) (g9 : Int32)  : Met l yX3_isIn wsX3_isIn ({ frames := 0, cells := 0, slots := 0, locals := 0 }) (RdP D cZ cI [.int (v9), .int (l9), .int (g9)] ([])) (vp_Si (fun r0 => r0 = bI (decide (l9 ≤ v9) && decide (v9 ≤ g9)))) 0 0 (fun _ => False) := by
  refine Met.ofW (cc := cX3_isIn) (maxL := 3) (ret := (some .boolean)) (by decide) rfl ?_
  intro p e s m args below meth c s₁ B hml hv
  obtain ⟨rfl, hP, hZ⟩ := hv
  have hx := B.exec
  have hb := B.bytes
  have hr := B.returns
  have hts := atoms_spec (ws := wsX3_isIn) B.pre
  have hown : s.vm.findClass RX3 = some m.cls := findClass_of_methodNamed B.named
  have hlocks := B.notSynchronized
  have hP : va_P D vwCl ([]) s.heap := hP
  have hl := lv_entry ([.int (v9), .int (l9), .int (g9)]) (n := 3) (Nat.le_of_ble_eq_true rfl)
  rw [lg_entry_eq]
  generalize (lg_sl ([.int (v9), .int (l9), .int (g9)]) ++ List.replicate (3 - (lg_sl ([.int (v9), .int (l9), .int (g9)])).length) Slot.unset).toArray = ls at hl ⊢
  have hl : lv_has ls 3 [(0, .int (v9)), (1, .int (l9)), (2, .int (g9))] := hl
  refine lv_iload_n hx hb dX3_isIn_0 rfl (lv_at hl 0 rfl) ?_
  refine lv_iload_n hx hb dX3_isIn_1 rfl (lv_at hl 1 rfl) ?_
  refine lv_icmp_lt (tgt := 14) hx hb dX3_isIn_2 (by decide) (fun c2_1 => ?_) (fun c2_1 => ?_)
  · skip
    refine lv_iconst (v := nI 0) hx hb dX3_isIn_14 (by decide) ?_
    exact W.zret (v := nI 0) hx hb hr rfl (fun t ht hW => ⟨_, rfl, (show nI 0 = bI (decide (l9 ≤ v9) && decide (v9 ≤ g9)) from by rw [show (decide (l9 ≤ v9) && decide (v9 ≤ g9)) = false from isIn_f1 c2_1]; rfl), ht⟩) (fun q h => absurd h List.not_mem_nil) dX3_isIn_15
  · skip
    refine lv_iload_n hx hb dX3_isIn_5 rfl (lv_at hl 0 rfl) ?_
    refine lv_iload_n hx hb dX3_isIn_6 rfl (lv_at hl 2 rfl) ?_
    refine lv_icmp_gt (tgt := 14) hx hb dX3_isIn_7 (by decide) (fun c7_2 => ?_) (fun c7_2 => ?_)
    · skip
      refine lv_iconst (v := nI 0) hx hb dX3_isIn_14 (by decide) ?_
      exact W.zret (v := nI 0) hx hb hr rfl (fun t ht hW => ⟨_, rfl, (show nI 0 = bI (decide (l9 ≤ v9) && decide (v9 ≤ g9)) from by rw [show (decide (l9 ≤ v9) && decide (v9 ≤ g9)) = false from isIn_f2 c7_2]; rfl), ht⟩) (fun q h => absurd h List.not_mem_nil) dX3_isIn_15
    · skip
      refine lv_iconst (v := nI 1) hx hb dX3_isIn_10 (by decide) ?_
      refine lv_goto (tgt := 15) hx hb dX3_isIn_11 (by decide) ?_
      exact W.zret (v := nI 1) hx hb hr rfl (fun t ht hW => ⟨_, rfl, (show nI 1 = bI (decide (l9 ≤ v9) && decide (v9 ≤ g9)) from by rw [show (decide (l9 ≤ v9) && decide (v9 ≤ g9)) = true from isIn_t c2_1 c7_2]; rfl), ht⟩) (fun q h => absurd h List.not_mem_nil) dX3_isIn_15

set_option maxHeartbeats 4000000 in
set_option maxRecDepth 100000 in
theorem c_X3_refuse (l : Launch) (D : va_G) (cZ cI : ClassId) (b : Nat → Nat) (g0 : Option Nat) (sz : Nat) (is9 : Bool) (k9 : Nat) (hk1 : 0 < k9) (hk9 : k9 < 2 ^ 31) : Met l yX3_refuse wsX3_refuse ({ frames := 0, cells := 0, slots := 0, locals := 0 }) (WrP D cZ cI [.ref (b 0), .int (bI is9), .int (nI k9)] (pM cZ cI b 0 0 g0 (fun _ => false)) sz) (WrI D (pM cZ cI b (thr is9 k9) 0 g0 (fun _ => false)) (va_A (pM cZ cI b 0 0 g0 (fun _ => false)) sz) (bI is9)) 0 0 (va_A (pM cZ cI b 0 0 g0 (fun _ => false)) sz) := by
  refine Met.ofW (cc := cX3_refuse) (maxL := 3) (ret := (some .boolean)) (by decide) rfl ?_
  intro p e s m args below meth c s₁ B hml hv
  obtain ⟨rfl, hsz, hP, hZ, hD0⟩ := hv
  have hx := B.exec
  have hb := B.bytes
  have hr := B.returns
  have hts := atoms_spec (ws := wsX3_refuse) B.pre
  have hown : s.vm.findClass RX3 = some m.cls := findClass_of_methodNamed B.named
  have hlocks := B.notSynchronized
  subst hsz
  have hD := hD0.self (sz := s.heap.size)
  generalize hAe : va_A (pM cZ cI b 0 0 g0 (fun _ => false)) s.heap.size = A at hD ⊢
  have hA : ∀ q : Nat, s.heap.size ≤ q → A q := fun q h => by rw [← hAe]; exact Or.inr h
  have hS : va_S A s.heap s.heap [] := va_S.rf
  have hP : va_P D vwCl (pM cZ cI b 0 0 g0 (fun _ => false)) s.heap := hP
  have hl := lv_entry ([.ref (b 0), .int (bI is9), .int (nI k9)]) (n := 3) (Nat.le_of_ble_eq_true rfl)
  rw [lg_entry_eq]
  generalize (lg_sl ([.ref (b 0), .int (bI is9), .int (nI k9)]) ++ List.replicate (3 - (lg_sl ([.ref (b 0), .int (bI is9), .int (nI k9)])).length) Slot.unset).toArray = ls at hl ⊢
  have hl : lv_has ls 3 [(0, .ref (b 0)), (1, .int (bI is9)), (2, .int (nI k9))] := hl
  have hin3 : ∀ w ∈ u_ws RX3 TX3 20, w ∈ wsX3_refuse := by decide +kernel
  have hf35 := hts (.fieldLink RX3 35 "DoorChaseModel" "thrown" "I") (by decide +kernel)
  refine lv_iload_n hx hb dX3_refuse_0 rfl (lv_at hl 1 rfl) ?_
  refine rv_ifeqB (tgt := 16) hx hb dX3_refuse_1 (by decide) (fun c1_1 => ?_) (fun c1_1 => ?_)
  · skip
    refine lv_aload_n hx hb dX3_refuse_16 rfl (lv_at hl 0 rfl) ?_
    refine va_get (D := D) (ci := 3) (v := .int (nI 0)) (C := RX3) (T := TX3) (N := 20) hx hb hts hin3 hown hZ.1 hP 0 rfl rfl 0 (by decide) hf35 (fun _ h9 => h9) rfl dX3_refuse_17 ?_
    refine rv_ifleN (tgt := 27) hx hb (by omega) dX3_refuse_20 (by decide) (fun c20_2 => ?_) (fun c20_2 => ?_)
    · skip
      refine lv_iconst (v := nI 0) hx hb dX3_refuse_27 (by decide) ?_
      have hP9 : va_P D vwCl (pM cZ cI b (thr is9 k9) 0 g0 (fun _ => false)) s.heap := by (rw [show is9 = false by assumption]; exact hP)
      have hD9 : va_D A (pM cZ cI b (thr is9 k9) 0 g0 (fun _ => false)) := by (rw [show is9 = false by assumption]; exact hD)
      exact W.zret (v := nI 0) hx hb hr rfl (fun t ht hW => ⟨⟨_, (), rfl, (show nI 0 = bI is9 from by rw [show is9 = false by first | assumption | omega]; rfl), by rw [ht]; exact hP9, hD9⟩, hS.F ht⟩) hS.2.2 dX3_refuse_28
    · skip
      exact absurd rfl c20_2
  · skip
    refine lv_aload_n hx hb dX3_refuse_4 rfl (lv_at hl 0 rfl) ?_
    refine va_get (D := D) (ci := 3) (v := .int (nI 0)) (C := RX3) (T := TX3) (N := 20) hx hb hts hin3 hown hZ.1 hP 0 rfl rfl 0 (by decide) hf35 (fun _ h9 => h9) rfl dX3_refuse_5 ?_
    refine rv_ifneN (tgt := 16) hx hb (by omega) dX3_refuse_8 (by decide) (fun c8_3 => ?_) (fun c8_3 => ?_)
    · skip
      exact absurd rfl c8_3
    · skip
      refine lv_aload_n hx hb dX3_refuse_11 rfl (lv_at hl 0 rfl) ?_
      refine lv_iload_n hx hb dX3_refuse_12 rfl (lv_at hl 2 rfl) ?_
      refine va_put (D := D) (ci := 3) (v := .int (nI k9)) (ty := .int) (C := RX3) (T := TX3) (N := 20) hx hb hts hin3 tyX3 tyX3_ok nmX3 hown hZ.1 hP hD hS 0 rfl rfl 0 (by decide) hf35 (fun _ h9 => h9) rfl (by decide +kernel) rfl rfl (Nat.le_of_ble_eq_true rfl) dX3_refuse_13 (fun H locs hP hD hS => ?_)
      have hP : va_P D vwCl (pM cZ cI b k9 0 g0 (fun _ => false)) H := hP
      have hD : va_D A (pM cZ cI b k9 0 g0 (fun _ => false)) := hD
      refine lv_aload_n hx hb dX3_refuse_16 rfl (lv_at hl 0 rfl) ?_
      refine va_get (D := D) (ci := 3) (v := .int (nI k9)) (C := RX3) (T := TX3) (N := 20) hx hb hts hin3 hown hZ.1 hP 0 rfl rfl 0 (by decide) hf35 (fun _ h9 => h9) rfl dX3_refuse_17 ?_
      refine rv_ifleN (tgt := 27) hx hb (by omega) dX3_refuse_20 (by decide) (fun c20_4 => ?_) (fun c20_4 => ?_)
      · skip
        exfalso; omega
      · skip
        refine lv_iconst (v := nI 1) hx hb dX3_refuse_23 (by decide) ?_
        refine lv_goto (tgt := 28) hx hb dX3_refuse_24 (by decide) ?_
        have hP9 : va_P D vwCl (pM cZ cI b (thr is9 k9) 0 g0 (fun _ => false)) H := by (rw [show is9 = true by assumption]; exact hP)
        have hD9 : va_D A (pM cZ cI b (thr is9 k9) 0 g0 (fun _ => false)) := by (rw [show is9 = true by assumption]; exact hD)
        exact W.zret (v := nI 1) hx hb hr rfl (fun t ht hW => ⟨⟨_, (), rfl, (show nI 1 = bI is9 from by rw [show is9 = true by first | assumption | omega]; rfl), by rw [ht]; exact hP9, hD9⟩, hS.F ht⟩) hS.2.2 dX3_refuse_28

set_option maxHeartbeats 4000000 in
set_option maxRecDepth 100000 in
theorem c_X3_start (l : Launch) (D : va_G) (cZ cI : ClassId) (b : Nat → Nat) (t0 : Nat) (g0 : Option Nat) (sz : Nat) (is9 : Bool) (k9 : Nat) (hk1 : 0 < k9) (hk9 : k9 < 2 ^ 31) : Met l yX3_start wsX3_start ({ frames := 1, cells := 0, slots := 0, locals := 22 }) (WrP D cZ cI [.ref (b 0), .int (bI is9), .int (nI k9)] (pM cZ cI b t0 0 g0 (fun _ => false)) sz) (WrI D (pM cZ cI b (thr is9 k9) 0 g0 (fun _ => false)) (va_A (pM cZ cI b t0 0 g0 (fun _ => false)) sz) (bI is9)) 0 0 (va_A (pM cZ cI b t0 0 g0 (fun _ => false)) sz) := by
  refine Met.ofW (cc := cX3_start) (maxL := 3) (ret := (some .boolean)) (by decide) rfl ?_
  intro p e s m args below meth c s₁ B hml hv
  obtain ⟨rfl, hsz, hP, hZ, hD0⟩ := hv
  have hx := B.exec
  have hb := B.bytes
  have hr := B.returns
  have hts := atoms_spec (ws := wsX3_start) B.pre
  have hown : s.vm.findClass RX3 = some m.cls := findClass_of_methodNamed B.named
  have hlocks := B.notSynchronized
  subst hsz
  have hD := hD0.self (sz := s.heap.size)
  generalize hAe : va_A (pM cZ cI b t0 0 g0 (fun _ => false)) s.heap.size = A at hD ⊢
  have hA : ∀ q : Nat, s.heap.size ≤ q → A q := fun q h => by rw [← hAe]; exact Or.inr h
  have hS : va_S A s.heap s.heap [] := va_S.rf
  have hP : va_P D vwCl (pM cZ cI b t0 0 g0 (fun _ => false)) s.heap := hP
  have hl := lv_entry ([.ref (b 0), .int (bI is9), .int (nI k9)]) (n := 3) (Nat.le_of_ble_eq_true rfl)
  rw [lg_entry_eq]
  generalize (lg_sl ([.ref (b 0), .int (bI is9), .int (nI k9)]) ++ List.replicate (3 - (lg_sl ([.ref (b 0), .int (bI is9), .int (nI k9)])).length) Slot.unset).toArray = ls at hl ⊢
  have hl : lv_has ls 3 [(0, .ref (b 0)), (1, .int (bI is9)), (2, .int (nI k9))] := hl
  have hin3 : ∀ w ∈ u_ws RX3 TX3 20, w ∈ wsX3_start := by decide +kernel
  have hf35 := hts (.fieldLink RX3 35 "DoorChaseModel" "thrown" "I") (by decide +kernel)
  refine lv_aload_n hx hb dX3_start_0 rfl (lv_at hl 0 rfl) ?_
  refine lv_iconst (v := nI 0) hx hb dX3_start_1 (by decide) ?_
  refine va_put (D := D) (ci := 3) (v := .int (nI 0)) (ty := .int) (C := RX3) (T := TX3) (N := 20) hx hb hts hin3 tyX3 tyX3_ok nmX3 hown hZ.1 hP hD hS 0 rfl rfl 0 (by decide) hf35 (fun _ h9 => h9) rfl (by decide +kernel) rfl rfl (Nat.le_of_ble_eq_true rfl) dX3_start_2 (fun H locs hP hD hS => ?_)
  have hP : va_P D vwCl (pM cZ cI b 0 0 g0 (fun _ => false)) H := hP
  have hD : va_D A (pM cZ cI b 0 0 g0 (fun _ => false)) := hD
  refine lv_aload_n hx hb dX3_start_5 rfl (lv_at hl 0 rfl) ?_
  refine lv_iload_n hx hb dX3_start_6 rfl (lv_at hl 1 rfl) ?_
  refine lv_iload_n hx hb dX3_start_7 rfl (lv_at hl 2 rfl) ?_
  have hFc := va_free (wc := pM cZ cI b 0 0 g0 (fun _ => false)) hD hS hA [0, 1, 2, 3, 4, 5, 6, 7, 8] rfl
  refine va_calli (va_runV (As := [.int (bI is9), .int (nI k9)]) (rest := []) ⟨hx, hb, hml, hown, hts⟩ (c_X3_refuse l D cZ cI b g0 H.size is9 k9 (by first | assumption | omega) (by first | assumption | omega)) (cwV 2 hts gX3_start_X3_refuse rfl rfl rfl (by decide +kernel) ⟨Nat.le_of_ble_eq_true rfl, Nat.le_of_ble_eq_true rfl⟩) ⟨WrP_blind, va_recv hZ.1 hP (ci := 3) (q0 := 0) rfl rfl, WrP_start hP hD hZ⟩ rfl rfl hl.1 rfl (lv_room (Nat.le_of_ble_eq_true rfl)) dX3_start_8 ⟨Nat.le_of_ble_eq_true rfl, Nat.le_of_ble_eq_true rfl⟩) hS (fun q _ h => hFc q h) hFc (fun r9 u t H1 locs ht hvm hw hB hz1 hk1 hS => ?_)
  obtain ⟨hP, hD⟩ := hB
  rw [ht] at hP
  replace hD := hD.weaken (fun _ _ _ h => hFc _ h)
  generalize H1 = H at hP hS ⊢
  have hP : va_P D vwCl (pM cZ cI b (thr is9 k9) 0 g0 (fun _ => false)) H := hP
  have hD : va_D A (pM cZ cI b (thr is9 k9) 0 g0 (fun _ => false)) := hD
  subst hw
  refine rv_top (show _ = bI is9 from rfl) ?_
  have hP9 : va_P D vwCl (pM cZ cI b (thr is9 k9) 0 g0 (fun _ => false)) H := by exact hP
  have hD9 : va_D A (pM cZ cI b (thr is9 k9) 0 g0 (fun _ => false)) := by exact hD
  exact W.zret (v := bI is9) hx hb hr (nr_bI _) (fun t ht hW => ⟨⟨_, (), rfl, rfl, by rw [ht]; exact hP9, hD9⟩, hS.F ht⟩) hS.2.2 dX3_start_11

set_option maxHeartbeats 4000000 in
set_option maxRecDepth 100000 in
theorem c_X3_isNoRoom (l : Launch) (D : va_G) (cZ cI : ClassId) (b : Nat → Nat) (t0 : Nat) (g0 : Option Nat) (sz : Nat) (x : Int32)  : Met l yX3_isNoRoom wsX3_isNoRoom ({ frames := 2, cells := 0, slots := 0, locals := 44 }) (WrP D cZ cI [.ref (b 0), .int (x)] (pM cZ cI b t0 0 g0 (fun _ => false)) sz) (WrI D (pM cZ cI b 1 0 g0 (fun _ => false)) (va_A (pM cZ cI b t0 0 g0 (fun _ => false)) sz) (bI true)) 0 0 (va_A (pM cZ cI b t0 0 g0 (fun _ => false)) sz) := by
  refine Met.ofW (cc := cX3_isNoRoom) (maxL := 2) (ret := (some .boolean)) (by decide) rfl ?_
  intro p e s m args below meth c s₁ B hml hv
  obtain ⟨rfl, hsz, hP, hZ, hD0⟩ := hv
  have hx := B.exec
  have hb := B.bytes
  have hr := B.returns
  have hts := atoms_spec (ws := wsX3_isNoRoom) B.pre
  have hown : s.vm.findClass RX3 = some m.cls := findClass_of_methodNamed B.named
  have hlocks := B.notSynchronized
  subst hsz
  have hD := hD0.self (sz := s.heap.size)
  generalize hAe : va_A (pM cZ cI b t0 0 g0 (fun _ => false)) s.heap.size = A at hD ⊢
  have hA : ∀ q : Nat, s.heap.size ≤ q → A q := fun q h => by rw [← hAe]; exact Or.inr h
  have hS : va_S A s.heap s.heap [] := va_S.rf
  have hP : va_P D vwCl (pM cZ cI b t0 0 g0 (fun _ => false)) s.heap := hP
  have hl := lv_entry ([.ref (b 0), .int (x)]) (n := 2) (Nat.le_of_ble_eq_true rfl)
  rw [lg_entry_eq]
  generalize (lg_sl ([.ref (b 0), .int (x)]) ++ List.replicate (2 - (lg_sl ([.ref (b 0), .int (x)])).length) Slot.unset).toArray = ls at hl ⊢
  have hl : lv_has ls 2 [(0, .ref (b 0)), (1, .int (x))] := hl
  have hin3 : ∀ w ∈ u_ws RX3 TX3 20, w ∈ wsX3_isNoRoom := by decide +kernel
  have hf43 := hts (.fieldLink RX3 43 "DoorChaseModel" "rooms" "I") (by decide +kernel)
  refine lv_aload_n hx hb dX3_isNoRoom_0 rfl (lv_at hl 0 rfl) ?_
  refine lv_iload_n hx hb dX3_isNoRoom_1 rfl (lv_at hl 1 rfl) ?_
  refine lv_iconst (v := nI 0) hx hb dX3_isNoRoom_2 (by decide) ?_
  refine lv_aload_n hx hb dX3_isNoRoom_3 rfl (lv_at hl 0 rfl) ?_
  refine va_get (D := D) (ci := 3) (v := .int (nI 0)) (C := RX3) (T := TX3) (N := 20) hx hb hts hin3 hown hZ.1 hP 0 rfl rfl 1 (by decide) hf43 (fun _ h9 => h9) rfl dX3_isNoRoom_4 ?_
  refine lv_iconst (v := nI 1) hx hb dX3_isNoRoom_7 (by decide) ?_
  refine lv_isub hx hb dX3_isNoRoom_8 ?_
  refine rv_top (show nI 0 - nI 1 = (-1 : Int32) from by decide) ?_
  refine vp_callSi (va_runS (As := [.int (x), .int (nI 0), .int ((-1))]) (rest := [.ref (b 0)]) ⟨hx, hb, hml, hown, hts⟩ (c_X3_isIn l D cZ cI   x (nI 0) (-1) ) (va_cwS 3 hts gX3_isNoRoom_X3_isIn rfl rfl rfl (by decide +kernel) ⟨Nat.le_of_ble_eq_true rfl, Nat.le_of_ble_eq_true rfl⟩) ⟨RdP_blind, RdP_start (hP.sub (ws' := []) [] rfl) hZ⟩ rfl rfl hl.1 rfl (lv_room (Nat.le_of_ble_eq_true rfl)) dX3_isNoRoom_9 ⟨Nat.le_of_ble_eq_true rfl, Nat.le_of_ble_eq_true rfl⟩).run (fun r_1 hr_2 => ?_)
  subst hr_2
  refine rv_top (show _ = bI (decide ((nI 0) ≤ x) && decide (x ≤ (-1))) from rfl) ?_
  refine rv_top (congrArg bI (isIn_0 _)) ?_
  refine rv_ifneB (tgt := 19) hx hb dX3_isNoRoom_12 (by decide) (fun c12_3 => ?_) (fun c12_3 => ?_)
  · skip
    exact Bool.noConfusion c12_3
  · skip
    refine lv_iconst (v := nI 1) hx hb dX3_isNoRoom_15 (by decide) ?_
    refine rv_top (show nI 1 = bI true from rfl) ?_
    refine lv_goto (tgt := 20) hx hb dX3_isNoRoom_16 (by decide) ?_
    refine lv_iconst (v := nI 1) hx hb dX3_isNoRoom_20 (by decide) ?_
    have hFc := va_free (wc := pM cZ cI b t0 0 g0 (fun _ => false)) hD hS hA [0, 1, 2, 3, 4, 5, 6, 7, 8] rfl
    refine va_calli (va_runV (As := [.int (bI true), .int (nI 1)]) (rest := []) ⟨hx, hb, hml, hown, hts⟩ (c_X3_start l D cZ cI b t0 g0 s.heap.size true 1 (by first | assumption | omega) (by first | assumption | omega)) (cwV 2 hts gX3_isNoRoom_X3_start rfl rfl rfl (by decide +kernel) ⟨Nat.le_of_ble_eq_true rfl, Nat.le_of_ble_eq_true rfl⟩) ⟨WrP_blind, va_recv hZ.1 hP (ci := 3) (q0 := 0) rfl rfl, WrP_start hP hD hZ⟩ rfl rfl hl.1 rfl (lv_room (Nat.le_of_ble_eq_true rfl)) dX3_isNoRoom_21 ⟨Nat.le_of_ble_eq_true rfl, Nat.le_of_ble_eq_true rfl⟩) hS (fun q _ h => hFc q h) hFc (fun r9 u t H1 locs ht hvm hw hB hz1 hk1 hS => ?_)
    obtain ⟨hP, hD⟩ := hB
    rw [ht] at hP
    replace hD := hD.weaken (fun _ _ _ h => hFc _ h)
    generalize H1 = H at hP hS ⊢
    have hP : va_P D vwCl (pM cZ cI b 1 0 g0 (fun _ => false)) H := hP
    have hD : va_D A (pM cZ cI b 1 0 g0 (fun _ => false)) := hD
    subst hw
    refine rv_top (show _ = bI true from rfl) ?_
    have hP9 : va_P D vwCl (pM cZ cI b 1 0 g0 (fun _ => false)) H := by exact hP
    have hD9 : va_D A (pM cZ cI b 1 0 g0 (fun _ => false)) := by exact hD
    exact W.zret (v := bI true) hx hb hr (nr_bI _) (fun t ht hW => ⟨⟨_, (), rfl, rfl, by rw [ht]; exact hP9, hD9⟩, hS.F ht⟩) hS.2.2 dX3_isNoRoom_24

set_option maxHeartbeats 4000000 in
set_option maxRecDepth 100000 in
theorem c_X3_isNoDoor (l : Launch) (D : va_G) (cZ cI : ClassId) (b : Nat → Nat) (t0 : Nat) (g0 : Option Nat) (sz : Nat) (x : Int32)  : Met l yX3_isNoDoor wsX3_isNoDoor ({ frames := 2, cells := 0, slots := 0, locals := 44 }) (WrP D cZ cI [.ref (b 0), .int (x)] (pM cZ cI b t0 0 g0 (fun _ => false)) sz) (WrI D (pM cZ cI b 1 0 g0 (fun _ => false)) (va_A (pM cZ cI b t0 0 g0 (fun _ => false)) sz) (bI true)) 0 0 (va_A (pM cZ cI b t0 0 g0 (fun _ => false)) sz) := by
  refine Met.ofW (cc := cX3_isNoDoor) (maxL := 2) (ret := (some .boolean)) (by decide) rfl ?_
  intro p e s m args below meth c s₁ B hml hv
  obtain ⟨rfl, hsz, hP, hZ, hD0⟩ := hv
  have hx := B.exec
  have hb := B.bytes
  have hr := B.returns
  have hts := atoms_spec (ws := wsX3_isNoDoor) B.pre
  have hown : s.vm.findClass RX3 = some m.cls := findClass_of_methodNamed B.named
  have hlocks := B.notSynchronized
  subst hsz
  have hD := hD0.self (sz := s.heap.size)
  generalize hAe : va_A (pM cZ cI b t0 0 g0 (fun _ => false)) s.heap.size = A at hD ⊢
  have hA : ∀ q : Nat, s.heap.size ≤ q → A q := fun q h => by rw [← hAe]; exact Or.inr h
  have hS : va_S A s.heap s.heap [] := va_S.rf
  have hP : va_P D vwCl (pM cZ cI b t0 0 g0 (fun _ => false)) s.heap := hP
  have hl := lv_entry ([.ref (b 0), .int (x)]) (n := 2) (Nat.le_of_ble_eq_true rfl)
  rw [lg_entry_eq]
  generalize (lg_sl ([.ref (b 0), .int (x)]) ++ List.replicate (2 - (lg_sl ([.ref (b 0), .int (x)])).length) Slot.unset).toArray = ls at hl ⊢
  have hl : lv_has ls 2 [(0, .ref (b 0)), (1, .int (x))] := hl
  have hin3 : ∀ w ∈ u_ws RX3 TX3 20, w ∈ wsX3_isNoDoor := by decide +kernel
  have hf57 := hts (.fieldLink RX3 57 "DoorChaseModel" "doors" "I") (by decide +kernel)
  refine lv_aload_n hx hb dX3_isNoDoor_0 rfl (lv_at hl 0 rfl) ?_
  refine lv_iload_n hx hb dX3_isNoDoor_1 rfl (lv_at hl 1 rfl) ?_
  refine lv_iconst (v := nI 0) hx hb dX3_isNoDoor_2 (by decide) ?_
  refine lv_aload_n hx hb dX3_isNoDoor_3 rfl (lv_at hl 0 rfl) ?_
  refine va_get (D := D) (ci := 3) (v := .int (nI 0)) (C := RX3) (T := TX3) (N := 20) hx hb hts hin3 hown hZ.1 hP 0 rfl rfl 2 (by decide) hf57 (fun _ h9 => h9) rfl dX3_isNoDoor_4 ?_
  refine lv_iconst (v := nI 1) hx hb dX3_isNoDoor_7 (by decide) ?_
  refine lv_isub hx hb dX3_isNoDoor_8 ?_
  refine rv_top (show nI 0 - nI 1 = (-1 : Int32) from by decide) ?_
  refine vp_callSi (va_runS (As := [.int (x), .int (nI 0), .int ((-1))]) (rest := [.ref (b 0)]) ⟨hx, hb, hml, hown, hts⟩ (c_X3_isIn l D cZ cI   x (nI 0) (-1) ) (va_cwS 3 hts gX3_isNoDoor_X3_isIn rfl rfl rfl (by decide +kernel) ⟨Nat.le_of_ble_eq_true rfl, Nat.le_of_ble_eq_true rfl⟩) ⟨RdP_blind, RdP_start (hP.sub (ws' := []) [] rfl) hZ⟩ rfl rfl hl.1 rfl (lv_room (Nat.le_of_ble_eq_true rfl)) dX3_isNoDoor_9 ⟨Nat.le_of_ble_eq_true rfl, Nat.le_of_ble_eq_true rfl⟩).run (fun r_1 hr_2 => ?_)
  subst hr_2
  refine rv_top (show _ = bI (decide ((nI 0) ≤ x) && decide (x ≤ (-1))) from rfl) ?_
  refine rv_top (congrArg bI (isIn_0 _)) ?_
  refine rv_ifneB (tgt := 19) hx hb dX3_isNoDoor_12 (by decide) (fun c12_3 => ?_) (fun c12_3 => ?_)
  · skip
    exact Bool.noConfusion c12_3
  · skip
    refine lv_iconst (v := nI 1) hx hb dX3_isNoDoor_15 (by decide) ?_
    refine rv_top (show nI 1 = bI true from rfl) ?_
    refine lv_goto (tgt := 20) hx hb dX3_isNoDoor_16 (by decide) ?_
    refine lv_iconst (v := nI 1) hx hb dX3_isNoDoor_20 (by decide) ?_
    have hFc := va_free (wc := pM cZ cI b t0 0 g0 (fun _ => false)) hD hS hA [0, 1, 2, 3, 4, 5, 6, 7, 8] rfl
    refine va_calli (va_runV (As := [.int (bI true), .int (nI 1)]) (rest := []) ⟨hx, hb, hml, hown, hts⟩ (c_X3_start l D cZ cI b t0 g0 s.heap.size true 1 (by first | assumption | omega) (by first | assumption | omega)) (cwV 2 hts gX3_isNoDoor_X3_start rfl rfl rfl (by decide +kernel) ⟨Nat.le_of_ble_eq_true rfl, Nat.le_of_ble_eq_true rfl⟩) ⟨WrP_blind, va_recv hZ.1 hP (ci := 3) (q0 := 0) rfl rfl, WrP_start hP hD hZ⟩ rfl rfl hl.1 rfl (lv_room (Nat.le_of_ble_eq_true rfl)) dX3_isNoDoor_21 ⟨Nat.le_of_ble_eq_true rfl, Nat.le_of_ble_eq_true rfl⟩) hS (fun q _ h => hFc q h) hFc (fun r9 u t H1 locs ht hvm hw hB hz1 hk1 hS => ?_)
    obtain ⟨hP, hD⟩ := hB
    rw [ht] at hP
    replace hD := hD.weaken (fun _ _ _ h => hFc _ h)
    generalize H1 = H at hP hS ⊢
    have hP : va_P D vwCl (pM cZ cI b 1 0 g0 (fun _ => false)) H := hP
    have hD : va_D A (pM cZ cI b 1 0 g0 (fun _ => false)) := hD
    subst hw
    refine rv_top (show _ = bI true from rfl) ?_
    have hP9 : va_P D vwCl (pM cZ cI b 1 0 g0 (fun _ => false)) H := by exact hP
    have hD9 : va_D A (pM cZ cI b 1 0 g0 (fun _ => false)) := by exact hD
    exact W.zret (v := bI true) hx hb hr (nr_bI _) (fun t ht hW => ⟨⟨_, (), rfl, rfl, by rw [ht]; exact hP9, hD9⟩, hS.F ht⟩) hS.2.2 dX3_isNoDoor_24

set_option maxHeartbeats 4000000 in
set_option maxRecDepth 100000 in
theorem c_X3_areNoRooms (l : Launch) (D : va_G) (cZ cI : ClassId) (b : Nat → Nat) (t0 : Nat) (g0 : Option Nat) (sz : Nat) (x : Int32) (y : Int32)  : Met l yX3_areNoRooms wsX3_areNoRooms ({ frames := 3, cells := 0, slots := 0, locals := 65 }) (WrP D cZ cI [.ref (b 0), .int (x), .int (y)] (pM cZ cI b t0 0 g0 (fun _ => false)) sz) (WrI D (pM cZ cI b 1 0 g0 (fun _ => false)) (va_A (pM cZ cI b t0 0 g0 (fun _ => false)) sz) (bI true)) 0 0 (va_A (pM cZ cI b t0 0 g0 (fun _ => false)) sz) := by
  refine Met.ofW (cc := cX3_areNoRooms) (maxL := 3) (ret := (some .boolean)) (by decide) rfl ?_
  intro p e s m args below meth c s₁ B hml hv
  obtain ⟨rfl, hsz, hP, hZ, hD0⟩ := hv
  have hx := B.exec
  have hb := B.bytes
  have hr := B.returns
  have hts := atoms_spec (ws := wsX3_areNoRooms) B.pre
  have hown : s.vm.findClass RX3 = some m.cls := findClass_of_methodNamed B.named
  have hlocks := B.notSynchronized
  subst hsz
  have hD := hD0.self (sz := s.heap.size)
  generalize hAe : va_A (pM cZ cI b t0 0 g0 (fun _ => false)) s.heap.size = A at hD ⊢
  have hA : ∀ q : Nat, s.heap.size ≤ q → A q := fun q h => by rw [← hAe]; exact Or.inr h
  have hS : va_S A s.heap s.heap [] := va_S.rf
  have hP : va_P D vwCl (pM cZ cI b t0 0 g0 (fun _ => false)) s.heap := hP
  have hl := lv_entry ([.ref (b 0), .int (x), .int (y)]) (n := 3) (Nat.le_of_ble_eq_true rfl)
  rw [lg_entry_eq]
  generalize (lg_sl ([.ref (b 0), .int (x), .int (y)]) ++ List.replicate (3 - (lg_sl ([.ref (b 0), .int (x), .int (y)])).length) Slot.unset).toArray = ls at hl ⊢
  have hl : lv_has ls 3 [(0, .ref (b 0)), (1, .int (x)), (2, .int (y))] := hl
  have hin3 : ∀ w ∈ u_ws RX3 TX3 20, w ∈ wsX3_areNoRooms := by decide +kernel
  have hf43 := hts (.fieldLink RX3 43 "DoorChaseModel" "rooms" "I") (by decide +kernel)
  refine lv_aload_n hx hb dX3_areNoRooms_0 rfl (lv_at hl 0 rfl) ?_
  refine lv_iload_n hx hb dX3_areNoRooms_1 rfl (lv_at hl 1 rfl) ?_
  have hFc := va_free (wc := pM cZ cI b t0 0 g0 (fun _ => false)) hD hS hA [0, 1, 2, 3, 4, 5, 6, 7, 8] rfl
  refine va_calli (va_runV (As := [.int (x)]) (rest := []) ⟨hx, hb, hml, hown, hts⟩ (c_X3_isNoRoom l D cZ cI b t0 g0 s.heap.size x ) (cwV 1 hts gX3_areNoRooms_X3_isNoRoom rfl rfl rfl (by decide +kernel) ⟨Nat.le_of_ble_eq_true rfl, Nat.le_of_ble_eq_true rfl⟩) ⟨WrP_blind, va_recv hZ.1 hP (ci := 3) (q0 := 0) rfl rfl, WrP_start hP hD hZ⟩ rfl rfl hl.1 rfl (lv_room (Nat.le_of_ble_eq_true rfl)) dX3_areNoRooms_2 ⟨Nat.le_of_ble_eq_true rfl, Nat.le_of_ble_eq_true rfl⟩) hS (fun q _ h => hFc q h) hFc (fun r9 u t H1 locs ht hvm hw hB hz1 hk1 hS => ?_)
  obtain ⟨hP, hD⟩ := hB
  rw [ht] at hP
  replace hD := hD.weaken (fun _ _ _ h => hFc _ h)
  generalize H1 = H at hP hS ⊢
  have hP : va_P D vwCl (pM cZ cI b 1 0 g0 (fun _ => false)) H := hP
  have hD : va_D A (pM cZ cI b 1 0 g0 (fun _ => false)) := hD
  subst hw
  refine rv_top (show _ = bI true from rfl) ?_
  refine rv_ifneB (tgt := 35) hx hb dX3_areNoRooms_5 (by decide) (fun c5_1 => ?_) (fun c5_1 => ?_)
  · skip
    refine lv_iconst (v := nI 1) hx hb dX3_areNoRooms_35 (by decide) ?_
    refine lv_goto (tgt := 40) hx hb dX3_areNoRooms_36 (by decide) ?_
    have hP9 : va_P D vwCl (pM cZ cI b 1 0 g0 (fun _ => false)) H := by exact hP
    have hD9 : va_D A (pM cZ cI b 1 0 g0 (fun _ => false)) := by exact hD
    exact W.zret (v := nI 1) hx hb hr rfl (fun t ht hW => ⟨⟨_, (), rfl, (show nI 1 = bI true from rfl), by rw [ht]; exact hP9, hD9⟩, hS.F ht⟩) hS.2.2 dX3_areNoRooms_40
  · skip
    exact Bool.noConfusion c5_1

set_option maxHeartbeats 4000000 in
set_option maxRecDepth 100000 in
theorem c_X3_isNoneOn (l : Launch) (D : va_G) (cZ cI : ClassId) (b : Nat → Nat) (t0 : Nat) (g0 : Option Nat) (sz : Nat) (x : Int32)  : Met l yX3_isNoneOn wsX3_isNoneOn ({ frames := 3, cells := 0, slots := 0, locals := 65 }) (WrP D cZ cI [.ref (b 0), .int (x)] (pM cZ cI b t0 0 g0 (fun _ => false)) sz) (WrI D (pM cZ cI b 1 0 g0 (fun _ => false)) (va_A (pM cZ cI b t0 0 g0 (fun _ => false)) sz) (bI true)) 0 0 (va_A (pM cZ cI b t0 0 g0 (fun _ => false)) sz) := by
  refine Met.ofW (cc := cX3_isNoneOn) (maxL := 2) (ret := (some .boolean)) (by decide) rfl ?_
  intro p e s m args below meth c s₁ B hml hv
  obtain ⟨rfl, hsz, hP, hZ, hD0⟩ := hv
  have hx := B.exec
  have hb := B.bytes
  have hr := B.returns
  have hts := atoms_spec (ws := wsX3_isNoneOn) B.pre
  have hown : s.vm.findClass RX3 = some m.cls := findClass_of_methodNamed B.named
  have hlocks := B.notSynchronized
  subst hsz
  have hD := hD0.self (sz := s.heap.size)
  generalize hAe : va_A (pM cZ cI b t0 0 g0 (fun _ => false)) s.heap.size = A at hD ⊢
  have hA : ∀ q : Nat, s.heap.size ≤ q → A q := fun q h => by rw [← hAe]; exact Or.inr h
  have hS : va_S A s.heap s.heap [] := va_S.rf
  have hP : va_P D vwCl (pM cZ cI b t0 0 g0 (fun _ => false)) s.heap := hP
  have hl := lv_entry ([.ref (b 0), .int (x)]) (n := 2) (Nat.le_of_ble_eq_true rfl)
  rw [lg_entry_eq]
  generalize (lg_sl ([.ref (b 0), .int (x)]) ++ List.replicate (2 - (lg_sl ([.ref (b 0), .int (x)])).length) Slot.unset).toArray = ls at hl ⊢
  have hl : lv_has ls 2 [(0, .ref (b 0)), (1, .int (x))] := hl
  have hin3 : ∀ w ∈ u_ws RX3 TX3 20, w ∈ wsX3_isNoneOn := by decide +kernel
  have hf85 := hts (.fieldLink RX3 85 "DoorChaseModel" "isOn" "Z") (by decide +kernel)
  refine lv_aload_n hx hb dX3_isNoneOn_0 rfl (lv_at hl 0 rfl) ?_
  refine lv_iload_n hx hb dX3_isNoneOn_1 rfl (lv_at hl 1 rfl) ?_
  have hFc := va_free (wc := pM cZ cI b t0 0 g0 (fun _ => false)) hD hS hA [0, 1, 2, 3, 4, 5, 6, 7, 8] rfl
  refine va_calli (va_runV (As := [.int (x)]) (rest := []) ⟨hx, hb, hml, hown, hts⟩ (c_X3_isNoRoom l D cZ cI b t0 g0 s.heap.size x ) (cwV 1 hts gX3_isNoneOn_X3_isNoRoom rfl rfl rfl (by decide +kernel) ⟨Nat.le_of_ble_eq_true rfl, Nat.le_of_ble_eq_true rfl⟩) ⟨WrP_blind, va_recv hZ.1 hP (ci := 3) (q0 := 0) rfl rfl, WrP_start hP hD hZ⟩ rfl rfl hl.1 rfl (lv_room (Nat.le_of_ble_eq_true rfl)) dX3_isNoneOn_2 ⟨Nat.le_of_ble_eq_true rfl, Nat.le_of_ble_eq_true rfl⟩) hS (fun q _ h => hFc q h) hFc (fun r9 u t H1 locs ht hvm hw hB hz1 hk1 hS => ?_)
  obtain ⟨hP, hD⟩ := hB
  rw [ht] at hP
  replace hD := hD.weaken (fun _ _ _ h => hFc _ h)
  generalize H1 = H at hP hS ⊢
  have hP : va_P D vwCl (pM cZ cI b 1 0 g0 (fun _ => false)) H := hP
  have hD : va_D A (pM cZ cI b 1 0 g0 (fun _ => false)) := hD
  subst hw
  refine rv_top (show _ = bI true from rfl) ?_
  refine rv_ifneB (tgt := 28) hx hb dX3_isNoneOn_5 (by decide) (fun c5_1 => ?_) (fun c5_1 => ?_)
  · skip
    refine lv_iconst (v := nI 1) hx hb dX3_isNoneOn_28 (by decide) ?_
    refine lv_goto (tgt := 33) hx hb dX3_isNoneOn_29 (by decide) ?_
    have hP9 : va_P D vwCl (pM cZ cI b 1 0 g0 (fun _ => false)) H := by exact hP
    have hD9 : va_D A (pM cZ cI b 1 0 g0 (fun _ => false)) := by exact hD
    exact W.zret (v := nI 1) hx hb hr rfl (fun t ht hW => ⟨⟨_, (), rfl, (show nI 1 = bI true from rfl), by rw [ht]; exact hP9, hD9⟩, hS.F ht⟩) hS.2.2 dX3_isNoneOn_33
  · skip
    exact Bool.noConfusion c5_1

set_option maxHeartbeats 4000000 in
set_option maxRecDepth 100000 in
theorem c_X3_plain (l : Launch) (D : va_G) (cZ cI : ClassId) (b : Nat → Nat) (t0 : Nat) (g0 : Option Nat) (sz : Nat) (v9 : Int32)  : Met l yX3_plain wsX3_plain ({ frames := 0, cells := 0, slots := 0, locals := 0 }) (WrP D cZ cI [.ref (b 0), .int (v9)] (pM cZ cI b t0 0 g0 (fun _ => false)) sz) (WrI D (pM cZ cI b 0 0 g0 (fun _ => false)) (va_A (pM cZ cI b t0 0 g0 (fun _ => false)) sz) (v9)) 0 0 (va_A (pM cZ cI b t0 0 g0 (fun _ => false)) sz) := by
  refine Met.ofW (cc := cX3_plain) (maxL := 2) (ret := (some .int)) (by decide) rfl ?_
  intro p e s m args below meth c s₁ B hml hv
  obtain ⟨rfl, hsz, hP, hZ, hD0⟩ := hv
  have hx := B.exec
  have hb := B.bytes
  have hr := B.returns
  have hts := atoms_spec (ws := wsX3_plain) B.pre
  have hown : s.vm.findClass RX3 = some m.cls := findClass_of_methodNamed B.named
  have hlocks := B.notSynchronized
  subst hsz
  have hD := hD0.self (sz := s.heap.size)
  generalize hAe : va_A (pM cZ cI b t0 0 g0 (fun _ => false)) s.heap.size = A at hD ⊢
  have hA : ∀ q : Nat, s.heap.size ≤ q → A q := fun q h => by rw [← hAe]; exact Or.inr h
  have hS : va_S A s.heap s.heap [] := va_S.rf
  have hP : va_P D vwCl (pM cZ cI b t0 0 g0 (fun _ => false)) s.heap := hP
  have hl := lv_entry ([.ref (b 0), .int (v9)]) (n := 2) (Nat.le_of_ble_eq_true rfl)
  rw [lg_entry_eq]
  generalize (lg_sl ([.ref (b 0), .int (v9)]) ++ List.replicate (2 - (lg_sl ([.ref (b 0), .int (v9)])).length) Slot.unset).toArray = ls at hl ⊢
  have hl : lv_has ls 2 [(0, .ref (b 0)), (1, .int (v9))] := hl
  have hin3 : ∀ w ∈ u_ws RX3 TX3 20, w ∈ wsX3_plain := by decide +kernel
  have hf35 := hts (.fieldLink RX3 35 "DoorChaseModel" "thrown" "I") (by decide +kernel)
  refine lv_aload_n hx hb dX3_plain_0 rfl (lv_at hl 0 rfl) ?_
  refine lv_iconst (v := nI 0) hx hb dX3_plain_1 (by decide) ?_
  refine va_put (D := D) (ci := 3) (v := .int (nI 0)) (ty := .int) (C := RX3) (T := TX3) (N := 20) hx hb hts hin3 tyX3 tyX3_ok nmX3 hown hZ.1 hP hD hS 0 rfl rfl 0 (by decide) hf35 (fun _ h9 => h9) rfl (by decide +kernel) rfl rfl (Nat.le_of_ble_eq_true rfl) dX3_plain_2 (fun H locs hP hD hS => ?_)
  have hP : va_P D vwCl (pM cZ cI b 0 0 g0 (fun _ => false)) H := hP
  have hD : va_D A (pM cZ cI b 0 0 g0 (fun _ => false)) := hD
  refine lv_iload_n hx hb dX3_plain_5 rfl (lv_at hl 1 rfl) ?_
  have hP9 : va_P D vwCl (pM cZ cI b 0 0 g0 (fun _ => false)) H := by exact hP
  have hD9 : va_D A (pM cZ cI b 0 0 g0 (fun _ => false)) := by exact hD
  exact W.iret (v := v9) hx hb hr (fun t ht hW => ⟨⟨_, (), rfl, rfl, by rw [ht]; exact hP9, hD9⟩, hS.F ht⟩) hS.2.2 dX3_plain_6

set_option maxHeartbeats 4000000 in
set_option maxRecDepth 100000 in
theorem c_X3_plain_ (l : Launch) (D : va_G) (cZ cI : ClassId) (b : Nat → Nat) (t0 : Nat) (g0 : Option Nat) (sz : Nat) (v9 : Bool)  : Met l yX3_plain_ wsX3_plain_ ({ frames := 0, cells := 0, slots := 0, locals := 0 }) (WrP D cZ cI [.ref (b 0), .int (bI v9)] (pM cZ cI b t0 0 g0 (fun _ => false)) sz) (WrI D (pM cZ cI b 0 0 g0 (fun _ => false)) (va_A (pM cZ cI b t0 0 g0 (fun _ => false)) sz) (bI v9)) 0 0 (va_A (pM cZ cI b t0 0 g0 (fun _ => false)) sz) := by
  refine Met.ofW (cc := cX3_plain_) (maxL := 2) (ret := (some .boolean)) (by decide) rfl ?_
  intro p e s m args below meth c s₁ B hml hv
  obtain ⟨rfl, hsz, hP, hZ, hD0⟩ := hv
  have hx := B.exec
  have hb := B.bytes
  have hr := B.returns
  have hts := atoms_spec (ws := wsX3_plain_) B.pre
  have hown : s.vm.findClass RX3 = some m.cls := findClass_of_methodNamed B.named
  have hlocks := B.notSynchronized
  subst hsz
  have hD := hD0.self (sz := s.heap.size)
  generalize hAe : va_A (pM cZ cI b t0 0 g0 (fun _ => false)) s.heap.size = A at hD ⊢
  have hA : ∀ q : Nat, s.heap.size ≤ q → A q := fun q h => by rw [← hAe]; exact Or.inr h
  have hS : va_S A s.heap s.heap [] := va_S.rf
  have hP : va_P D vwCl (pM cZ cI b t0 0 g0 (fun _ => false)) s.heap := hP
  have hl := lv_entry ([.ref (b 0), .int (bI v9)]) (n := 2) (Nat.le_of_ble_eq_true rfl)
  rw [lg_entry_eq]
  generalize (lg_sl ([.ref (b 0), .int (bI v9)]) ++ List.replicate (2 - (lg_sl ([.ref (b 0), .int (bI v9)])).length) Slot.unset).toArray = ls at hl ⊢
  have hl : lv_has ls 2 [(0, .ref (b 0)), (1, .int (bI v9))] := hl
  have hin3 : ∀ w ∈ u_ws RX3 TX3 20, w ∈ wsX3_plain_ := by decide +kernel
  have hf35 := hts (.fieldLink RX3 35 "DoorChaseModel" "thrown" "I") (by decide +kernel)
  refine lv_aload_n hx hb dX3_plain__0 rfl (lv_at hl 0 rfl) ?_
  refine lv_iconst (v := nI 0) hx hb dX3_plain__1 (by decide) ?_
  refine va_put (D := D) (ci := 3) (v := .int (nI 0)) (ty := .int) (C := RX3) (T := TX3) (N := 20) hx hb hts hin3 tyX3 tyX3_ok nmX3 hown hZ.1 hP hD hS 0 rfl rfl 0 (by decide) hf35 (fun _ h9 => h9) rfl (by decide +kernel) rfl rfl (Nat.le_of_ble_eq_true rfl) dX3_plain__2 (fun H locs hP hD hS => ?_)
  have hP : va_P D vwCl (pM cZ cI b 0 0 g0 (fun _ => false)) H := hP
  have hD : va_D A (pM cZ cI b 0 0 g0 (fun _ => false)) := hD
  refine lv_iload_n hx hb dX3_plain__5 rfl (lv_at hl 1 rfl) ?_
  have hP9 : va_P D vwCl (pM cZ cI b 0 0 g0 (fun _ => false)) H := by exact hP
  have hD9 : va_D A (pM cZ cI b 0 0 g0 (fun _ => false)) := by exact hD
  exact W.zret (v := bI v9) hx hb hr (nr_bI _) (fun t ht hW => ⟨⟨_, (), rfl, rfl, by rw [ht]; exact hP9, hD9⟩, hS.F ht⟩) hS.2.2 dX3_plain__6

set_option maxHeartbeats 4000000 in
set_option maxRecDepth 100000 in
theorem c_X3_addRoom (l : Launch) (D : va_G) (cZ cI : ClassId) (b : Nat → Nat) (t0 : Nat) (g0 : Option Nat) (sz : Nat) (s9 : Bool)  : Met l yX3_addRoom wsX3_addRoom ({ frames := 2, cells := 0, slots := 0, locals := 44 }) (WrP D cZ cI [.ref (b 0), .int (bI s9)] (pM cZ cI b t0 0 g0 (fun _ => false)) sz) (WrI D (pM cZ cI b 0 (0 + 1) g0 (va_up (fun _ => false) 0 s9)) (va_A (pM cZ cI b t0 0 g0 (fun _ => false)) sz) (nI (0 + 1 - 1))) 0 0 (va_A (pM cZ cI b t0 0 g0 (fun _ => false)) sz) := by
  refine Met.ofW (cc := cX3_addRoom) (maxL := 2) (ret := (some .int)) (by decide) rfl ?_
  intro p e s m args below meth c s₁ B hml hv
  obtain ⟨rfl, hsz, hP, hZ, hD0⟩ := hv
  have hx := B.exec
  have hb := B.bytes
  have hr := B.returns
  have hts := atoms_spec (ws := wsX3_addRoom) B.pre
  have hown : s.vm.findClass RX3 = some m.cls := findClass_of_methodNamed B.named
  have hlocks := B.notSynchronized
  subst hsz
  have hD := hD0.self (sz := s.heap.size)
  generalize hAe : va_A (pM cZ cI b t0 0 g0 (fun _ => false)) s.heap.size = A at hD ⊢
  have hA : ∀ q : Nat, s.heap.size ≤ q → A q := fun q h => by rw [← hAe]; exact Or.inr h
  have hS : va_S A s.heap s.heap [] := va_S.rf
  have hP : va_P D vwCl (pM cZ cI b t0 0 g0 (fun _ => false)) s.heap := hP
  have hl := lv_entry ([.ref (b 0), .int (bI s9)]) (n := 2) (Nat.le_of_ble_eq_true rfl)
  rw [lg_entry_eq]
  generalize (lg_sl ([.ref (b 0), .int (bI s9)]) ++ List.replicate (2 - (lg_sl ([.ref (b 0), .int (bI s9)])).length) Slot.unset).toArray = ls at hl ⊢
  have hl : lv_has ls 2 [(0, .ref (b 0)), (1, .int (bI s9))] := hl
  have hin3 : ∀ w ∈ u_ws RX3 TX3 20, w ∈ wsX3_addRoom := by decide +kernel
  have hf9 := hts (.fieldLink RX3 9 "DoorChaseModel" "safe" "[Z") (by decide +kernel)
  have hf43 := hts (.fieldLink RX3 43 "DoorChaseModel" "rooms" "I") (by decide +kernel)
  refine lv_aload_n hx hb dX3_addRoom_0 rfl (lv_at hl 0 rfl) ?_
  refine lv_aload_n hx hb dX3_addRoom_1 rfl (lv_at hl 0 rfl) ?_
  refine va_get (D := D) (ci := 3) (v := .int (nI 0)) (C := RX3) (T := TX3) (N := 20) hx hb hts hin3 hown hZ.1 hP 0 rfl rfl 1 (by decide) hf43 (fun _ h9 => h9) rfl dX3_addRoom_2 ?_
  refine lv_bipush (v := nI 8) hx hb dX3_addRoom_5 (by decide) ?_
  refine rv_ne (tgt := 14) hx hb (by omega) (by omega) dX3_addRoom_7 (by decide) (fun c7_1 => ?_) (fun c7_1 => ?_)
  · skip
    refine lv_iconst (v := nI 0) hx hb dX3_addRoom_14 (by decide) ?_
    refine rv_top (show nI 0 = bI false from rfl) ?_
    refine lv_iconst (v := nI 1) hx hb dX3_addRoom_15 (by decide) ?_
    have hFc := va_free (wc := pM cZ cI b t0 0 g0 (fun _ => false)) hD hS hA [0, 1, 2, 3, 4, 5, 6, 7, 8] rfl
    refine va_calli (va_runV (As := [.int (bI false), .int (nI 1)]) (rest := []) ⟨hx, hb, hml, hown, hts⟩ (c_X3_start l D cZ cI b t0 g0 s.heap.size false 1 (by first | assumption | omega) (by first | assumption | omega)) (cwV 2 hts gX3_addRoom_X3_start rfl rfl rfl (by decide +kernel) ⟨Nat.le_of_ble_eq_true rfl, Nat.le_of_ble_eq_true rfl⟩) ⟨WrP_blind, va_recv hZ.1 hP (ci := 3) (q0 := 0) rfl rfl, WrP_start hP hD hZ⟩ rfl rfl hl.1 rfl (lv_room (Nat.le_of_ble_eq_true rfl)) dX3_addRoom_16 ⟨Nat.le_of_ble_eq_true rfl, Nat.le_of_ble_eq_true rfl⟩) hS (fun q _ h => hFc q h) hFc (fun r9 u t H1 locs ht hvm hw hB hz1 hk1 hS => ?_)
    obtain ⟨hP, hD⟩ := hB
    rw [ht] at hP
    replace hD := hD.weaken (fun _ _ _ h => hFc _ h)
    generalize H1 = H at hP hS ⊢
    have hP : va_P D vwCl (pM cZ cI b 0 0 g0 (fun _ => false)) H := hP
    have hD : va_D A (pM cZ cI b 0 0 g0 (fun _ => false)) := hD
    subst hw
    refine rv_top (show _ = bI false from rfl) ?_
    refine rv_ifeqB (tgt := 24) hx hb dX3_addRoom_19 (by decide) (fun c19_2 => ?_) (fun c19_2 => ?_)
    · skip
      refine lv_aload_n hx hb dX3_addRoom_24 rfl (lv_at hl 0 rfl) ?_
      refine va_get (D := D) (ci := 3) (v := .ref (b 1)) (C := RX3) (T := TX3) (N := 20) hx hb hts hin3 hown hZ.1 hP 0 rfl rfl 3 (by decide) hf9 (fun _ h9 => h9) rfl dX3_addRoom_25 ?_
      refine lv_aload_n hx hb dX3_addRoom_28 rfl (lv_at hl 0 rfl) ?_
      refine va_get (D := D) (ci := 3) (v := .int (nI 0)) (C := RX3) (T := TX3) (N := 20) hx hb hts hin3 hown hZ.1 hP 0 rfl rfl 1 (by decide) hf43 (fun _ h9 => h9) rfl dX3_addRoom_29 ?_
      refine lv_iload_n hx hb dX3_addRoom_32 rfl (lv_at hl 1 rfl) ?_
      refine rv_zast hx hb hZ.1 hP hD hS 1 0 rfl rfl (r := 0) (by omega) (by decide) (encB_up _ _ _) dX3_addRoom_33 (fun H locs hP hD hS => ?_)
      have hP : va_P D vwCl (pM cZ cI b 0 0 g0 (va_up (fun _ => false) 0 s9)) H := hP
      have hD : va_D A (pM cZ cI b 0 0 g0 (va_up (fun _ => false) 0 s9)) := hD
      refine lv_aload_n hx hb dX3_addRoom_34 rfl (lv_at hl 0 rfl) ?_
      refine lv_dup hx hb dX3_addRoom_35 rfl ?_
      refine va_get (D := D) (ci := 3) (v := .int (nI 0)) (C := RX3) (T := TX3) (N := 20) hx hb hts hin3 hown hZ.1 hP 0 rfl rfl 1 (by decide) hf43 (fun _ h9 => h9) rfl dX3_addRoom_36 ?_
      refine lv_iconst (v := nI 1) hx hb dX3_addRoom_39 (by decide) ?_
      refine rv_add hx hb dX3_addRoom_40 ?_
      refine va_put (D := D) (ci := 3) (v := .int (nI (0 + 1))) (ty := .int) (C := RX3) (T := TX3) (N := 20) hx hb hts hin3 tyX3 tyX3_ok nmX3 hown hZ.1 hP hD hS 0 rfl rfl 1 (by decide) hf43 (fun _ h9 => h9) rfl (by decide +kernel) rfl rfl (Nat.le_of_ble_eq_true rfl) dX3_addRoom_41 (fun H locs hP hD hS => ?_)
      have hP : va_P D vwCl (pM cZ cI b 0 (0 + 1) g0 (va_up (fun _ => false) 0 s9)) H := hP
      have hD : va_D A (pM cZ cI b 0 (0 + 1) g0 (va_up (fun _ => false) 0 s9)) := hD
      refine lv_aload_n hx hb dX3_addRoom_44 rfl (lv_at hl 0 rfl) ?_
      refine va_get (D := D) (ci := 3) (v := .int (nI (0 + 1))) (C := RX3) (T := TX3) (N := 20) hx hb hts hin3 hown hZ.1 hP 0 rfl rfl 1 (by decide) hf43 (fun _ h9 => h9) rfl dX3_addRoom_45 ?_
      refine lv_iconst (v := nI 1) hx hb dX3_addRoom_48 (by decide) ?_
      refine rv_sub hx hb (by omega) dX3_addRoom_49 ?_
      have hP9 : va_P D vwCl (pM cZ cI b 0 (0 + 1) g0 (va_up (fun _ => false) 0 s9)) H := by exact hP
      have hD9 : va_D A (pM cZ cI b 0 (0 + 1) g0 (va_up (fun _ => false) 0 s9)) := by exact hD
      exact W.iret (v := nI ((0 + 1) - 1)) hx hb hr (fun t ht hW => ⟨⟨_, (), rfl, rfl, by rw [ht]; exact hP9, hD9⟩, hS.F ht⟩) hS.2.2 dX3_addRoom_50
    · skip
      exact Bool.noConfusion c19_2
  · skip
    exact absurd c7_1 (by decide)

set_option maxHeartbeats 4000000 in
set_option maxRecDepth 100000 in
theorem c_X3_addDoor (l : Launch) (D : va_G) (cZ cI : ClassId) (b : Nat → Nat) (t0 : Nat) (g0 : Option Nat) (sz : Nat) (x : Int32) (y : Int32) (z : Int32) (v : Int32)  : Met l yX3_addDoor wsX3_addDoor ({ frames := 4, cells := 0, slots := 0, locals := 87 }) (WrP D cZ cI [.ref (b 0), .int (x), .int (y), .int (z), .int (v)] (pM cZ cI b t0 0 g0 (fun _ => false)) sz) (WrI D (pM cZ cI b 1 0 g0 (fun _ => false)) (va_A (pM cZ cI b t0 0 g0 (fun _ => false)) sz) (nI 0)) 0 0 (va_A (pM cZ cI b t0 0 g0 (fun _ => false)) sz) := by
  refine Met.ofW (cc := cX3_addDoor) (maxL := 5) (ret := (some .int)) (by decide) rfl ?_
  intro p e s m args below meth c s₁ B hml hv
  obtain ⟨rfl, hsz, hP, hZ, hD0⟩ := hv
  have hx := B.exec
  have hb := B.bytes
  have hr := B.returns
  have hts := atoms_spec (ws := wsX3_addDoor) B.pre
  have hown : s.vm.findClass RX3 = some m.cls := findClass_of_methodNamed B.named
  have hlocks := B.notSynchronized
  subst hsz
  have hD := hD0.self (sz := s.heap.size)
  generalize hAe : va_A (pM cZ cI b t0 0 g0 (fun _ => false)) s.heap.size = A at hD ⊢
  have hA : ∀ q : Nat, s.heap.size ≤ q → A q := fun q h => by rw [← hAe]; exact Or.inr h
  have hS : va_S A s.heap s.heap [] := va_S.rf
  have hP : va_P D vwCl (pM cZ cI b t0 0 g0 (fun _ => false)) s.heap := hP
  have hl := lv_entry ([.ref (b 0), .int (x), .int (y), .int (z), .int (v)]) (n := 5) (Nat.le_of_ble_eq_true rfl)
  rw [lg_entry_eq]
  generalize (lg_sl ([.ref (b 0), .int (x), .int (y), .int (z), .int (v)]) ++ List.replicate (5 - (lg_sl ([.ref (b 0), .int (x), .int (y), .int (z), .int (v)])).length) Slot.unset).toArray = ls at hl ⊢
  have hl : lv_has ls 5 [(0, .ref (b 0)), (1, .int (x)), (2, .int (y)), (3, .int (z)), (4, .int (v))] := hl
  have hin3 : ∀ w ∈ u_ws RX3 TX3 20, w ∈ wsX3_addDoor := by decide +kernel
  have hf17 := hts (.fieldLink RX3 17 "DoorChaseModel" "one" "[I") (by decide +kernel)
  have hf20 := hts (.fieldLink RX3 20 "DoorChaseModel" "other" "[I") (by decide +kernel)
  have hf23 := hts (.fieldLink RX3 23 "DoorChaseModel" "period" "[I") (by decide +kernel)
  have hf26 := hts (.fieldLink RX3 26 "DoorChaseModel" "rest" "[I") (by decide +kernel)
  have hf57 := hts (.fieldLink RX3 57 "DoorChaseModel" "doors" "I") (by decide +kernel)
  refine lv_aload_n hx hb dX3_addDoor_0 rfl (lv_at hl 0 rfl) ?_
  refine lv_iload_n hx hb dX3_addDoor_1 rfl (lv_at hl 1 rfl) ?_
  refine lv_iload_n hx hb dX3_addDoor_2 rfl (lv_at hl 2 rfl) ?_
  have hFc := va_free (wc := pM cZ cI b t0 0 g0 (fun _ => false)) hD hS hA [0, 1, 2, 3, 4, 5, 6, 7, 8] rfl
  refine va_calli (va_runV (As := [.int (x), .int (y)]) (rest := []) ⟨hx, hb, hml, hown, hts⟩ (c_X3_areNoRooms l D cZ cI b t0 g0 s.heap.size x y ) (cwV 2 hts gX3_addDoor_X3_areNoRooms rfl rfl rfl (by decide +kernel) ⟨Nat.le_of_ble_eq_true rfl, Nat.le_of_ble_eq_true rfl⟩) ⟨WrP_blind, va_recv hZ.1 hP (ci := 3) (q0 := 0) rfl rfl, WrP_start hP hD hZ⟩ rfl rfl hl.1 rfl (lv_room (Nat.le_of_ble_eq_true rfl)) dX3_addDoor_3 ⟨Nat.le_of_ble_eq_true rfl, Nat.le_of_ble_eq_true rfl⟩) hS (fun q _ h => hFc q h) hFc (fun r9 u t H1 locs ht hvm hw hB hz1 hk1 hS => ?_)
  obtain ⟨hP, hD⟩ := hB
  rw [ht] at hP
  replace hD := hD.weaken (fun _ _ _ h => hFc _ h)
  generalize H1 = H at hP hS ⊢
  have hP : va_P D vwCl (pM cZ cI b 1 0 g0 (fun _ => false)) H := hP
  have hD : va_D A (pM cZ cI b 1 0 g0 (fun _ => false)) := hD
  subst hw
  refine rv_top (show _ = bI true from rfl) ?_
  refine rv_ifneB (tgt := 79) hx hb dX3_addDoor_6 (by decide) (fun c6_1 => ?_) (fun c6_1 => ?_)
  · skip
    refine lv_iconst (v := nI 0) hx hb dX3_addDoor_79 (by decide) ?_
    have hP9 : va_P D vwCl (pM cZ cI b 1 0 g0 (fun _ => false)) H := by exact hP
    have hD9 : va_D A (pM cZ cI b 1 0 g0 (fun _ => false)) := by exact hD
    exact W.iret (v := nI 0) hx hb hr (fun t ht hW => ⟨⟨_, (), rfl, rfl, by rw [ht]; exact hP9, hD9⟩, hS.F ht⟩) hS.2.2 dX3_addDoor_80
  · skip
    exact Bool.noConfusion c6_1

set_option maxHeartbeats 4000000 in
set_option maxRecDepth 100000 in
theorem c_X3_turnLock (l : Launch) (D : va_G) (cZ cI : ClassId) (b : Nat → Nat) (t0 : Nat) (g0 : Option Nat) (sz : Nat) (x : Int32)  : Met l yX3_turnLock wsX3_turnLock ({ frames := 3, cells := 0, slots := 0, locals := 65 }) (WrP D cZ cI [.ref (b 0), .int (x)] (pM cZ cI b t0 0 g0 (fun _ => false)) sz) (WrI D (pM cZ cI b 1 0 g0 (fun _ => false)) (va_A (pM cZ cI b t0 0 g0 (fun _ => false)) sz) (bI false)) 0 0 (va_A (pM cZ cI b t0 0 g0 (fun _ => false)) sz) := by
  refine Met.ofW (cc := cX3_turnLock) (maxL := 2) (ret := (some .boolean)) (by decide) rfl ?_
  intro p e s m args below meth c s₁ B hml hv
  obtain ⟨rfl, hsz, hP, hZ, hD0⟩ := hv
  have hx := B.exec
  have hb := B.bytes
  have hr := B.returns
  have hts := atoms_spec (ws := wsX3_turnLock) B.pre
  have hown : s.vm.findClass RX3 = some m.cls := findClass_of_methodNamed B.named
  have hlocks := B.notSynchronized
  subst hsz
  have hD := hD0.self (sz := s.heap.size)
  generalize hAe : va_A (pM cZ cI b t0 0 g0 (fun _ => false)) s.heap.size = A at hD ⊢
  have hA : ∀ q : Nat, s.heap.size ≤ q → A q := fun q h => by rw [← hAe]; exact Or.inr h
  have hS : va_S A s.heap s.heap [] := va_S.rf
  have hP : va_P D vwCl (pM cZ cI b t0 0 g0 (fun _ => false)) s.heap := hP
  have hl := lv_entry ([.ref (b 0), .int (x)]) (n := 2) (Nat.le_of_ble_eq_true rfl)
  rw [lg_entry_eq]
  generalize (lg_sl ([.ref (b 0), .int (x)]) ++ List.replicate (2 - (lg_sl ([.ref (b 0), .int (x)])).length) Slot.unset).toArray = ls at hl ⊢
  have hl : lv_has ls 2 [(0, .ref (b 0)), (1, .int (x))] := hl
  have hin3 : ∀ w ∈ u_ws RX3 TX3 20, w ∈ wsX3_turnLock := by decide +kernel
  have hf29 := hts (.fieldLink RX3 29 "DoorChaseModel" "locked" "[Z") (by decide +kernel)
  refine lv_aload_n hx hb dX3_turnLock_0 rfl (lv_at hl 0 rfl) ?_
  refine lv_iload_n hx hb dX3_turnLock_1 rfl (lv_at hl 1 rfl) ?_
  have hFc := va_free (wc := pM cZ cI b t0 0 g0 (fun _ => false)) hD hS hA [0, 1, 2, 3, 4, 5, 6, 7, 8] rfl
  refine va_calli (va_runV (As := [.int (x)]) (rest := []) ⟨hx, hb, hml, hown, hts⟩ (c_X3_isNoDoor l D cZ cI b t0 g0 s.heap.size x ) (cwV 1 hts gX3_turnLock_X3_isNoDoor rfl rfl rfl (by decide +kernel) ⟨Nat.le_of_ble_eq_true rfl, Nat.le_of_ble_eq_true rfl⟩) ⟨WrP_blind, va_recv hZ.1 hP (ci := 3) (q0 := 0) rfl rfl, WrP_start hP hD hZ⟩ rfl rfl hl.1 rfl (lv_room (Nat.le_of_ble_eq_true rfl)) dX3_turnLock_2 ⟨Nat.le_of_ble_eq_true rfl, Nat.le_of_ble_eq_true rfl⟩) hS (fun q _ h => hFc q h) hFc (fun r9 u t H1 locs ht hvm hw hB hz1 hk1 hS => ?_)
  obtain ⟨hP, hD⟩ := hB
  rw [ht] at hP
  replace hD := hD.weaken (fun _ _ _ h => hFc _ h)
  generalize H1 = H at hP hS ⊢
  have hP : va_P D vwCl (pM cZ cI b 1 0 g0 (fun _ => false)) H := hP
  have hD : va_D A (pM cZ cI b 1 0 g0 (fun _ => false)) := hD
  subst hw
  refine rv_top (show _ = bI true from rfl) ?_
  refine rv_ifeqB (tgt := 10) hx hb dX3_turnLock_5 (by decide) (fun c5_1 => ?_) (fun c5_1 => ?_)
  · skip
    exact Bool.noConfusion c5_1
  · skip
    refine lv_iconst (v := nI 0) hx hb dX3_turnLock_8 (by decide) ?_
    have hP9 : va_P D vwCl (pM cZ cI b 1 0 g0 (fun _ => false)) H := by exact hP
    have hD9 : va_D A (pM cZ cI b 1 0 g0 (fun _ => false)) := by exact hD
    exact W.zret (v := nI 0) hx hb hr rfl (fun t ht hW => ⟨⟨_, (), rfl, (show nI 0 = bI false from rfl), by rw [ht]; exact hP9, hD9⟩, hS.F ht⟩) hS.2.2 dX3_turnLock_9

set_option maxHeartbeats 4000000 in
set_option maxRecDepth 100000 in
theorem c_X3_putCheese (l : Launch) (D : va_G) (cZ cI : ClassId) (b : Nat → Nat) (t0 : Nat) (g0 : Option Nat) (sz : Nat) (x : Int32) (y : Int32)  : Met l yX3_putCheese wsX3_putCheese ({ frames := 3, cells := 0, slots := 0, locals := 65 }) (WrP D cZ cI [.ref (b 0), .int (x), .int (y)] (pM cZ cI b t0 0 g0 (fun _ => false)) sz) (WrI D (pM cZ cI b 1 0 g0 (fun _ => false)) (va_A (pM cZ cI b t0 0 g0 (fun _ => false)) sz) (nI 0)) 0 0 (va_A (pM cZ cI b t0 0 g0 (fun _ => false)) sz) := by
  refine Met.ofW (cc := cX3_putCheese) (maxL := 3) (ret := (some .int)) (by decide) rfl ?_
  intro p e s m args below meth c s₁ B hml hv
  obtain ⟨rfl, hsz, hP, hZ, hD0⟩ := hv
  have hx := B.exec
  have hb := B.bytes
  have hr := B.returns
  have hts := atoms_spec (ws := wsX3_putCheese) B.pre
  have hown : s.vm.findClass RX3 = some m.cls := findClass_of_methodNamed B.named
  have hlocks := B.notSynchronized
  subst hsz
  have hD := hD0.self (sz := s.heap.size)
  generalize hAe : va_A (pM cZ cI b t0 0 g0 (fun _ => false)) s.heap.size = A at hD ⊢
  have hA : ∀ q : Nat, s.heap.size ≤ q → A q := fun q h => by rw [← hAe]; exact Or.inr h
  have hS : va_S A s.heap s.heap [] := va_S.rf
  have hP : va_P D vwCl (pM cZ cI b t0 0 g0 (fun _ => false)) s.heap := hP
  have hl := lv_entry ([.ref (b 0), .int (x), .int (y)]) (n := 3) (Nat.le_of_ble_eq_true rfl)
  rw [lg_entry_eq]
  generalize (lg_sl ([.ref (b 0), .int (x), .int (y)]) ++ List.replicate (3 - (lg_sl ([.ref (b 0), .int (x), .int (y)])).length) Slot.unset).toArray = ls at hl ⊢
  have hl : lv_has ls 3 [(0, .ref (b 0)), (1, .int (x)), (2, .int (y))] := hl
  have hin3 : ∀ w ∈ u_ws RX3 TX3 20, w ∈ wsX3_putCheese := by decide +kernel
  have hf13 := hts (.fieldLink RX3 13 "DoorChaseModel" "cheese" "[I") (by decide +kernel)
  refine lv_aload_n hx hb dX3_putCheese_0 rfl (lv_at hl 0 rfl) ?_
  refine lv_iload_n hx hb dX3_putCheese_1 rfl (lv_at hl 1 rfl) ?_
  have hFc := va_free (wc := pM cZ cI b t0 0 g0 (fun _ => false)) hD hS hA [0, 1, 2, 3, 4, 5, 6, 7, 8] rfl
  refine va_calli (va_runV (As := [.int (x)]) (rest := []) ⟨hx, hb, hml, hown, hts⟩ (c_X3_isNoRoom l D cZ cI b t0 g0 s.heap.size x ) (cwV 1 hts gX3_putCheese_X3_isNoRoom rfl rfl rfl (by decide +kernel) ⟨Nat.le_of_ble_eq_true rfl, Nat.le_of_ble_eq_true rfl⟩) ⟨WrP_blind, va_recv hZ.1 hP (ci := 3) (q0 := 0) rfl rfl, WrP_start hP hD hZ⟩ rfl rfl hl.1 rfl (lv_room (Nat.le_of_ble_eq_true rfl)) dX3_putCheese_2 ⟨Nat.le_of_ble_eq_true rfl, Nat.le_of_ble_eq_true rfl⟩) hS (fun q _ h => hFc q h) hFc (fun r9 u t H1 locs ht hvm hw hB hz1 hk1 hS => ?_)
  obtain ⟨hP, hD⟩ := hB
  rw [ht] at hP
  replace hD := hD.weaken (fun _ _ _ h => hFc _ h)
  generalize H1 = H at hP hS ⊢
  have hP : va_P D vwCl (pM cZ cI b 1 0 g0 (fun _ => false)) H := hP
  have hD : va_D A (pM cZ cI b 1 0 g0 (fun _ => false)) := hD
  subst hw
  refine rv_top (show _ = bI true from rfl) ?_
  refine rv_ifneB (tgt := 57) hx hb dX3_putCheese_5 (by decide) (fun c5_1 => ?_) (fun c5_1 => ?_)
  · skip
    refine lv_iconst (v := nI 0) hx hb dX3_putCheese_57 (by decide) ?_
    have hP9 : va_P D vwCl (pM cZ cI b 1 0 g0 (fun _ => false)) H := by exact hP
    have hD9 : va_D A (pM cZ cI b 1 0 g0 (fun _ => false)) := by exact hD
    exact W.iret (v := nI 0) hx hb hr (fun t ht hW => ⟨⟨_, (), rfl, rfl, by rw [ht]; exact hP9, hD9⟩, hS.F ht⟩) hS.2.2 dX3_putCheese_58
  · skip
    exact Bool.noConfusion c5_1

set_option maxHeartbeats 4000000 in
set_option maxRecDepth 100000 in
theorem c_X3_begin (l : Launch) (D : va_G) (cZ cI : ClassId) (b : Nat → Nat) (t0 : Nat) (g0 : Option Nat) (sz : Nat) (x : Int32) (y : Int32)  : Met l yX3_begin wsX3_begin ({ frames := 4, cells := 0, slots := 0, locals := 87 }) (WrP D cZ cI [.ref (b 0), .int (x), .int (y)] (pM cZ cI b t0 0 g0 (fun _ => false)) sz) (WrI D (pM cZ cI b 1 0 g0 (fun _ => false)) (va_A (pM cZ cI b t0 0 g0 (fun _ => false)) sz) (nI 0)) 0 0 (va_A (pM cZ cI b t0 0 g0 (fun _ => false)) sz) := by
  refine Met.ofW (cc := cX3_begin) (maxL := 3) (ret := (some .int)) (by decide) rfl ?_
  intro p e s m args below meth c s₁ B hml hv
  obtain ⟨rfl, hsz, hP, hZ, hD0⟩ := hv
  have hx := B.exec
  have hb := B.bytes
  have hr := B.returns
  have hts := atoms_spec (ws := wsX3_begin) B.pre
  have hown : s.vm.findClass RX3 = some m.cls := findClass_of_methodNamed B.named
  have hlocks := B.notSynchronized
  subst hsz
  have hD := hD0.self (sz := s.heap.size)
  generalize hAe : va_A (pM cZ cI b t0 0 g0 (fun _ => false)) s.heap.size = A at hD ⊢
  have hA : ∀ q : Nat, s.heap.size ≤ q → A q := fun q h => by rw [← hAe]; exact Or.inr h
  have hS : va_S A s.heap s.heap [] := va_S.rf
  have hP : va_P D vwCl (pM cZ cI b t0 0 g0 (fun _ => false)) s.heap := hP
  have hl := lv_entry ([.ref (b 0), .int (x), .int (y)]) (n := 3) (Nat.le_of_ble_eq_true rfl)
  rw [lg_entry_eq]
  generalize (lg_sl ([.ref (b 0), .int (x), .int (y)]) ++ List.replicate (3 - (lg_sl ([.ref (b 0), .int (x), .int (y)])).length) Slot.unset).toArray = ls at hl ⊢
  have hl : lv_has ls 3 [(0, .ref (b 0)), (1, .int (x)), (2, .int (y))] := hl
  have hin3 : ∀ w ∈ u_ws RX3 TX3 20, w ∈ wsX3_begin := by decide +kernel
  have hf9 := hts (.fieldLink RX3 9 "DoorChaseModel" "safe" "[Z") (by decide +kernel)
  have hf85 := hts (.fieldLink RX3 85 "DoorChaseModel" "isOn" "Z") (by decide +kernel)
  have hf92 := hts (.fieldLink RX3 92 "DoorChaseModel" "turn" "I") (by decide +kernel)
  have hf95 := hts (.fieldLink RX3 95 "DoorChaseModel" "cat" "I") (by decide +kernel)
  have hf98 := hts (.fieldLink RX3 98 "DoorChaseModel" "mouse" "I") (by decide +kernel)
  have hf107 := hts (.fieldLink RX3 107 "DoorChaseModel" "isCaught" "Z") (by decide +kernel)
  have hf110 := hts (.fieldLink RX3 110 "DoorChaseModel" "eaten" "I") (by decide +kernel)
  refine lv_aload_n hx hb dX3_begin_0 rfl (lv_at hl 0 rfl) ?_
  refine lv_iload_n hx hb dX3_begin_1 rfl (lv_at hl 1 rfl) ?_
  refine lv_iload_n hx hb dX3_begin_2 rfl (lv_at hl 2 rfl) ?_
  have hFc := va_free (wc := pM cZ cI b t0 0 g0 (fun _ => false)) hD hS hA [0, 1, 2, 3, 4, 5, 6, 7, 8] rfl
  refine va_calli (va_runV (As := [.int (x), .int (y)]) (rest := []) ⟨hx, hb, hml, hown, hts⟩ (c_X3_areNoRooms l D cZ cI b t0 g0 s.heap.size x y ) (cwV 2 hts gX3_begin_X3_areNoRooms rfl rfl rfl (by decide +kernel) ⟨Nat.le_of_ble_eq_true rfl, Nat.le_of_ble_eq_true rfl⟩) ⟨WrP_blind, va_recv hZ.1 hP (ci := 3) (q0 := 0) rfl rfl, WrP_start hP hD hZ⟩ rfl rfl hl.1 rfl (lv_room (Nat.le_of_ble_eq_true rfl)) dX3_begin_3 ⟨Nat.le_of_ble_eq_true rfl, Nat.le_of_ble_eq_true rfl⟩) hS (fun q _ h => hFc q h) hFc (fun r9 u t H1 locs ht hvm hw hB hz1 hk1 hS => ?_)
  obtain ⟨hP, hD⟩ := hB
  rw [ht] at hP
  replace hD := hD.weaken (fun _ _ _ h => hFc _ h)
  generalize H1 = H at hP hS ⊢
  have hP : va_P D vwCl (pM cZ cI b 1 0 g0 (fun _ => false)) H := hP
  have hD : va_D A (pM cZ cI b 1 0 g0 (fun _ => false)) := hD
  subst hw
  refine rv_top (show _ = bI true from rfl) ?_
  refine rv_ifneB (tgt := 36) hx hb dX3_begin_6 (by decide) (fun c6_1 => ?_) (fun c6_1 => ?_)
  · skip
    refine lv_iconst (v := nI 0) hx hb dX3_begin_36 (by decide) ?_
    have hP9 : va_P D vwCl (pM cZ cI b 1 0 g0 (fun _ => false)) H := by exact hP
    have hD9 : va_D A (pM cZ cI b 1 0 g0 (fun _ => false)) := by exact hD
    exact W.iret (v := nI 0) hx hb hr (fun t ht hW => ⟨⟨_, (), rfl, rfl, by rw [ht]; exact hP9, hD9⟩, hS.F ht⟩) hS.2.2 dX3_begin_37
  · skip
    exact Bool.noConfusion c6_1

set_option maxHeartbeats 4000000 in
set_option maxRecDepth 100000 in
theorem c_X3_go (l : Launch) (D : va_G) (cZ cI : ClassId) (b : Nat → Nat) (t0 : Nat) (g0 : Option Nat) (sz : Nat) (x : Int32)  : Met l yX3_go wsX3_go ({ frames := 3, cells := 0, slots := 0, locals := 65 }) (WrP D cZ cI [.ref (b 0), .int (x)] (pM cZ cI b t0 0 g0 (fun _ => false)) sz) (WrI D (pM cZ cI b 1 0 g0 (fun _ => false)) (va_A (pM cZ cI b t0 0 g0 (fun _ => false)) sz) (bI false)) 0 0 (va_A (pM cZ cI b t0 0 g0 (fun _ => false)) sz) := by
  refine Met.ofW (cc := cX3_go) (maxL := 2) (ret := (some .boolean)) (by decide) rfl ?_
  intro p e s m args below meth c s₁ B hml hv
  obtain ⟨rfl, hsz, hP, hZ, hD0⟩ := hv
  have hx := B.exec
  have hb := B.bytes
  have hr := B.returns
  have hts := atoms_spec (ws := wsX3_go) B.pre
  have hown : s.vm.findClass RX3 = some m.cls := findClass_of_methodNamed B.named
  have hlocks := B.notSynchronized
  subst hsz
  have hD := hD0.self (sz := s.heap.size)
  generalize hAe : va_A (pM cZ cI b t0 0 g0 (fun _ => false)) s.heap.size = A at hD ⊢
  have hA : ∀ q : Nat, s.heap.size ≤ q → A q := fun q h => by rw [← hAe]; exact Or.inr h
  have hS : va_S A s.heap s.heap [] := va_S.rf
  have hP : va_P D vwCl (pM cZ cI b t0 0 g0 (fun _ => false)) s.heap := hP
  have hl := lv_entry ([.ref (b 0), .int (x)]) (n := 2) (Nat.le_of_ble_eq_true rfl)
  rw [lg_entry_eq]
  generalize (lg_sl ([.ref (b 0), .int (x)]) ++ List.replicate (2 - (lg_sl ([.ref (b 0), .int (x)])).length) Slot.unset).toArray = ls at hl ⊢
  have hl : lv_has ls 2 [(0, .ref (b 0)), (1, .int (x))] := hl
  have hin3 : ∀ w ∈ u_ws RX3 TX3 20, w ∈ wsX3_go := by decide +kernel
  have hf9 := hts (.fieldLink RX3 9 "DoorChaseModel" "safe" "[Z") (by decide +kernel)
  have hf85 := hts (.fieldLink RX3 85 "DoorChaseModel" "isOn" "Z") (by decide +kernel)
  have hf92 := hts (.fieldLink RX3 92 "DoorChaseModel" "turn" "I") (by decide +kernel)
  have hf95 := hts (.fieldLink RX3 95 "DoorChaseModel" "cat" "I") (by decide +kernel)
  have hf98 := hts (.fieldLink RX3 98 "DoorChaseModel" "mouse" "I") (by decide +kernel)
  have hf107 := hts (.fieldLink RX3 107 "DoorChaseModel" "isCaught" "Z") (by decide +kernel)
  refine lv_aload_n hx hb dX3_go_0 rfl (lv_at hl 0 rfl) ?_
  refine lv_iload_n hx hb dX3_go_1 rfl (lv_at hl 1 rfl) ?_
  have hFc := va_free (wc := pM cZ cI b t0 0 g0 (fun _ => false)) hD hS hA [0, 1, 2, 3, 4, 5, 6, 7, 8] rfl
  refine va_calli (va_runV (As := [.int (x)]) (rest := []) ⟨hx, hb, hml, hown, hts⟩ (c_X3_isNoRoom l D cZ cI b t0 g0 s.heap.size x ) (cwV 1 hts gX3_go_X3_isNoRoom rfl rfl rfl (by decide +kernel) ⟨Nat.le_of_ble_eq_true rfl, Nat.le_of_ble_eq_true rfl⟩) ⟨WrP_blind, va_recv hZ.1 hP (ci := 3) (q0 := 0) rfl rfl, WrP_start hP hD hZ⟩ rfl rfl hl.1 rfl (lv_room (Nat.le_of_ble_eq_true rfl)) dX3_go_2 ⟨Nat.le_of_ble_eq_true rfl, Nat.le_of_ble_eq_true rfl⟩) hS (fun q _ h => hFc q h) hFc (fun r9 u t H1 locs ht hvm hw hB hz1 hk1 hS => ?_)
  obtain ⟨hP, hD⟩ := hB
  rw [ht] at hP
  replace hD := hD.weaken (fun _ _ _ h => hFc _ h)
  generalize H1 = H at hP hS ⊢
  have hP : va_P D vwCl (pM cZ cI b 1 0 g0 (fun _ => false)) H := hP
  have hD : va_D A (pM cZ cI b 1 0 g0 (fun _ => false)) := hD
  subst hw
  refine rv_top (show _ = bI true from rfl) ?_
  refine rv_ifneB (tgt := 93) hx hb dX3_go_5 (by decide) (fun c5_1 => ?_) (fun c5_1 => ?_)
  · skip
    refine lv_iconst (v := nI 0) hx hb dX3_go_93 (by decide) ?_
    have hP9 : va_P D vwCl (pM cZ cI b 1 0 g0 (fun _ => false)) H := by exact hP
    have hD9 : va_D A (pM cZ cI b 1 0 g0 (fun _ => false)) := by exact hD
    exact W.zret (v := nI 0) hx hb hr rfl (fun t ht hW => ⟨⟨_, (), rfl, (show nI 0 = bI false from rfl), by rw [ht]; exact hP9, hD9⟩, hS.F ht⟩) hS.2.2 dX3_go_94
  · skip
    exact Bool.noConfusion c5_1

set_option maxHeartbeats 4000000 in
set_option maxRecDepth 100000 in
theorem c_X3_isSafe (l : Launch) (D : va_G) (cZ cI : ClassId) (b : Nat → Nat) (t0 : Nat) (g0 : Option Nat) (sz : Nat) (x : Int32)  : Met l yX3_isSafe wsX3_isSafe ({ frames := 3, cells := 0, slots := 0, locals := 65 }) (WrP D cZ cI [.ref (b 0), .int (x)] (pM cZ cI b t0 0 g0 (fun _ => false)) sz) (WrI D (pM cZ cI b 1 0 g0 (fun _ => false)) (va_A (pM cZ cI b t0 0 g0 (fun _ => false)) sz) (bI false)) 0 0 (va_A (pM cZ cI b t0 0 g0 (fun _ => false)) sz) := by
  refine Met.ofW (cc := cX3_isSafe) (maxL := 2) (ret := (some .boolean)) (by decide) rfl ?_
  intro p e s m args below meth c s₁ B hml hv
  obtain ⟨rfl, hsz, hP, hZ, hD0⟩ := hv
  have hx := B.exec
  have hb := B.bytes
  have hr := B.returns
  have hts := atoms_spec (ws := wsX3_isSafe) B.pre
  have hown : s.vm.findClass RX3 = some m.cls := findClass_of_methodNamed B.named
  have hlocks := B.notSynchronized
  subst hsz
  have hD := hD0.self (sz := s.heap.size)
  generalize hAe : va_A (pM cZ cI b t0 0 g0 (fun _ => false)) s.heap.size = A at hD ⊢
  have hA : ∀ q : Nat, s.heap.size ≤ q → A q := fun q h => by rw [← hAe]; exact Or.inr h
  have hS : va_S A s.heap s.heap [] := va_S.rf
  have hP : va_P D vwCl (pM cZ cI b t0 0 g0 (fun _ => false)) s.heap := hP
  have hl := lv_entry ([.ref (b 0), .int (x)]) (n := 2) (Nat.le_of_ble_eq_true rfl)
  rw [lg_entry_eq]
  generalize (lg_sl ([.ref (b 0), .int (x)]) ++ List.replicate (2 - (lg_sl ([.ref (b 0), .int (x)])).length) Slot.unset).toArray = ls at hl ⊢
  have hl : lv_has ls 2 [(0, .ref (b 0)), (1, .int (x))] := hl
  have hin3 : ∀ w ∈ u_ws RX3 TX3 20, w ∈ wsX3_isSafe := by decide +kernel
  have hf9 := hts (.fieldLink RX3 9 "DoorChaseModel" "safe" "[Z") (by decide +kernel)
  refine lv_aload_n hx hb dX3_isSafe_0 rfl (lv_at hl 0 rfl) ?_
  refine lv_iload_n hx hb dX3_isSafe_1 rfl (lv_at hl 1 rfl) ?_
  have hFc := va_free (wc := pM cZ cI b t0 0 g0 (fun _ => false)) hD hS hA [0, 1, 2, 3, 4, 5, 6, 7, 8] rfl
  refine va_calli (va_runV (As := [.int (x)]) (rest := []) ⟨hx, hb, hml, hown, hts⟩ (c_X3_isNoRoom l D cZ cI b t0 g0 s.heap.size x ) (cwV 1 hts gX3_isSafe_X3_isNoRoom rfl rfl rfl (by decide +kernel) ⟨Nat.le_of_ble_eq_true rfl, Nat.le_of_ble_eq_true rfl⟩) ⟨WrP_blind, va_recv hZ.1 hP (ci := 3) (q0 := 0) rfl rfl, WrP_start hP hD hZ⟩ rfl rfl hl.1 rfl (lv_room (Nat.le_of_ble_eq_true rfl)) dX3_isSafe_2 ⟨Nat.le_of_ble_eq_true rfl, Nat.le_of_ble_eq_true rfl⟩) hS (fun q _ h => hFc q h) hFc (fun r9 u t H1 locs ht hvm hw hB hz1 hk1 hS => ?_)
  obtain ⟨hP, hD⟩ := hB
  rw [ht] at hP
  replace hD := hD.weaken (fun _ _ _ h => hFc _ h)
  generalize H1 = H at hP hS ⊢
  have hP : va_P D vwCl (pM cZ cI b 1 0 g0 (fun _ => false)) H := hP
  have hD : va_D A (pM cZ cI b 1 0 g0 (fun _ => false)) := hD
  subst hw
  refine rv_top (show _ = bI true from rfl) ?_
  refine rv_ifneB (tgt := 21) hx hb dX3_isSafe_5 (by decide) (fun c5_1 => ?_) (fun c5_1 => ?_)
  · skip
    refine lv_iconst (v := nI 0) hx hb dX3_isSafe_21 (by decide) ?_
    have hP9 : va_P D vwCl (pM cZ cI b 1 0 g0 (fun _ => false)) H := by exact hP
    have hD9 : va_D A (pM cZ cI b 1 0 g0 (fun _ => false)) := by exact hD
    exact W.zret (v := nI 0) hx hb hr rfl (fun t ht hW => ⟨⟨_, (), rfl, (show nI 0 = bI false from rfl), by rw [ht]; exact hP9, hD9⟩, hS.F ht⟩) hS.2.2 dX3_isSafe_22
  · skip
    exact Bool.noConfusion c5_1

set_option maxHeartbeats 4000000 in
set_option maxRecDepth 100000 in
theorem c_X3_cheeseIn (l : Launch) (D : va_G) (cZ cI : ClassId) (b : Nat → Nat) (t0 : Nat) (g0 : Option Nat) (sz : Nat) (x : Int32)  : Met l yX3_cheeseIn wsX3_cheeseIn ({ frames := 3, cells := 0, slots := 0, locals := 65 }) (WrP D cZ cI [.ref (b 0), .int (x)] (pM cZ cI b t0 0 g0 (fun _ => false)) sz) (WrI D (pM cZ cI b 1 0 g0 (fun _ => false)) (va_A (pM cZ cI b t0 0 g0 (fun _ => false)) sz) (nI 0)) 0 0 (va_A (pM cZ cI b t0 0 g0 (fun _ => false)) sz) := by
  refine Met.ofW (cc := cX3_cheeseIn) (maxL := 2) (ret := (some .int)) (by decide) rfl ?_
  intro p e s m args below meth c s₁ B hml hv
  obtain ⟨rfl, hsz, hP, hZ, hD0⟩ := hv
  have hx := B.exec
  have hb := B.bytes
  have hr := B.returns
  have hts := atoms_spec (ws := wsX3_cheeseIn) B.pre
  have hown : s.vm.findClass RX3 = some m.cls := findClass_of_methodNamed B.named
  have hlocks := B.notSynchronized
  subst hsz
  have hD := hD0.self (sz := s.heap.size)
  generalize hAe : va_A (pM cZ cI b t0 0 g0 (fun _ => false)) s.heap.size = A at hD ⊢
  have hA : ∀ q : Nat, s.heap.size ≤ q → A q := fun q h => by rw [← hAe]; exact Or.inr h
  have hS : va_S A s.heap s.heap [] := va_S.rf
  have hP : va_P D vwCl (pM cZ cI b t0 0 g0 (fun _ => false)) s.heap := hP
  have hl := lv_entry ([.ref (b 0), .int (x)]) (n := 2) (Nat.le_of_ble_eq_true rfl)
  rw [lg_entry_eq]
  generalize (lg_sl ([.ref (b 0), .int (x)]) ++ List.replicate (2 - (lg_sl ([.ref (b 0), .int (x)])).length) Slot.unset).toArray = ls at hl ⊢
  have hl : lv_has ls 2 [(0, .ref (b 0)), (1, .int (x))] := hl
  have hin3 : ∀ w ∈ u_ws RX3 TX3 20, w ∈ wsX3_cheeseIn := by decide +kernel
  have hf13 := hts (.fieldLink RX3 13 "DoorChaseModel" "cheese" "[I") (by decide +kernel)
  refine lv_aload_n hx hb dX3_cheeseIn_0 rfl (lv_at hl 0 rfl) ?_
  refine lv_iload_n hx hb dX3_cheeseIn_1 rfl (lv_at hl 1 rfl) ?_
  have hFc := va_free (wc := pM cZ cI b t0 0 g0 (fun _ => false)) hD hS hA [0, 1, 2, 3, 4, 5, 6, 7, 8] rfl
  refine va_calli (va_runV (As := [.int (x)]) (rest := []) ⟨hx, hb, hml, hown, hts⟩ (c_X3_isNoRoom l D cZ cI b t0 g0 s.heap.size x ) (cwV 1 hts gX3_cheeseIn_X3_isNoRoom rfl rfl rfl (by decide +kernel) ⟨Nat.le_of_ble_eq_true rfl, Nat.le_of_ble_eq_true rfl⟩) ⟨WrP_blind, va_recv hZ.1 hP (ci := 3) (q0 := 0) rfl rfl, WrP_start hP hD hZ⟩ rfl rfl hl.1 rfl (lv_room (Nat.le_of_ble_eq_true rfl)) dX3_cheeseIn_2 ⟨Nat.le_of_ble_eq_true rfl, Nat.le_of_ble_eq_true rfl⟩) hS (fun q _ h => hFc q h) hFc (fun r9 u t H1 locs ht hvm hw hB hz1 hk1 hS => ?_)
  obtain ⟨hP, hD⟩ := hB
  rw [ht] at hP
  replace hD := hD.weaken (fun _ _ _ h => hFc _ h)
  generalize H1 = H at hP hS ⊢
  have hP : va_P D vwCl (pM cZ cI b 1 0 g0 (fun _ => false)) H := hP
  have hD : va_D A (pM cZ cI b 1 0 g0 (fun _ => false)) := hD
  subst hw
  refine rv_top (show _ = bI true from rfl) ?_
  refine rv_ifeqB (tgt := 12) hx hb dX3_cheeseIn_5 (by decide) (fun c5_1 => ?_) (fun c5_1 => ?_)
  · skip
    exact Bool.noConfusion c5_1
  · skip
    refine lv_iconst (v := nI 0) hx hb dX3_cheeseIn_8 (by decide) ?_
    refine lv_goto (tgt := 18) hx hb dX3_cheeseIn_9 (by decide) ?_
    have hP9 : va_P D vwCl (pM cZ cI b 1 0 g0 (fun _ => false)) H := by exact hP
    have hD9 : va_D A (pM cZ cI b 1 0 g0 (fun _ => false)) := by exact hD
    exact W.iret (v := nI 0) hx hb hr (fun t ht hW => ⟨⟨_, (), rfl, rfl, by rw [ht]; exact hP9, hD9⟩, hS.F ht⟩) hS.2.2 dX3_cheeseIn_18

set_option maxHeartbeats 4000000 in
set_option maxRecDepth 100000 in
theorem c_X3_doorsOf (l : Launch) (D : va_G) (cZ cI : ClassId) (b : Nat → Nat) (t0 : Nat) (g0 : Option Nat) (sz : Nat) (x : Int32)  : Met l yX3_doorsOf wsX3_doorsOf ({ frames := 3, cells := 0, slots := 0, locals := 65 }) (WrP D cZ cI [.ref (b 0), .int (x)] (pM cZ cI b t0 0 g0 (fun _ => false)) sz) (WrI D (pM cZ cI b 1 0 g0 (fun _ => false)) (va_A (pM cZ cI b t0 0 g0 (fun _ => false)) sz) (nI 0)) 0 0 (va_A (pM cZ cI b t0 0 g0 (fun _ => false)) sz) := by
  refine Met.ofW (cc := cX3_doorsOf) (maxL := 2) (ret := (some .int)) (by decide) rfl ?_
  intro p e s m args below meth c s₁ B hml hv
  obtain ⟨rfl, hsz, hP, hZ, hD0⟩ := hv
  have hx := B.exec
  have hb := B.bytes
  have hr := B.returns
  have hts := atoms_spec (ws := wsX3_doorsOf) B.pre
  have hown : s.vm.findClass RX3 = some m.cls := findClass_of_methodNamed B.named
  have hlocks := B.notSynchronized
  subst hsz
  have hD := hD0.self (sz := s.heap.size)
  generalize hAe : va_A (pM cZ cI b t0 0 g0 (fun _ => false)) s.heap.size = A at hD ⊢
  have hA : ∀ q : Nat, s.heap.size ≤ q → A q := fun q h => by rw [← hAe]; exact Or.inr h
  have hS : va_S A s.heap s.heap [] := va_S.rf
  have hP : va_P D vwCl (pM cZ cI b t0 0 g0 (fun _ => false)) s.heap := hP
  have hl := lv_entry ([.ref (b 0), .int (x)]) (n := 2) (Nat.le_of_ble_eq_true rfl)
  rw [lg_entry_eq]
  generalize (lg_sl ([.ref (b 0), .int (x)]) ++ List.replicate (2 - (lg_sl ([.ref (b 0), .int (x)])).length) Slot.unset).toArray = ls at hl ⊢
  have hl : lv_has ls 2 [(0, .ref (b 0)), (1, .int (x))] := hl
  refine lv_aload_n hx hb dX3_doorsOf_0 rfl (lv_at hl 0 rfl) ?_
  refine lv_iload_n hx hb dX3_doorsOf_1 rfl (lv_at hl 1 rfl) ?_
  have hFc := va_free (wc := pM cZ cI b t0 0 g0 (fun _ => false)) hD hS hA [0, 1, 2, 3, 4, 5, 6, 7, 8] rfl
  refine va_calli (va_runV (As := [.int (x)]) (rest := []) ⟨hx, hb, hml, hown, hts⟩ (c_X3_isNoRoom l D cZ cI b t0 g0 s.heap.size x ) (cwV 1 hts gX3_doorsOf_X3_isNoRoom rfl rfl rfl (by decide +kernel) ⟨Nat.le_of_ble_eq_true rfl, Nat.le_of_ble_eq_true rfl⟩) ⟨WrP_blind, va_recv hZ.1 hP (ci := 3) (q0 := 0) rfl rfl, WrP_start hP hD hZ⟩ rfl rfl hl.1 rfl (lv_room (Nat.le_of_ble_eq_true rfl)) dX3_doorsOf_2 ⟨Nat.le_of_ble_eq_true rfl, Nat.le_of_ble_eq_true rfl⟩) hS (fun q _ h => hFc q h) hFc (fun r9 u t H1 locs ht hvm hw hB hz1 hk1 hS => ?_)
  obtain ⟨hP, hD⟩ := hB
  rw [ht] at hP
  replace hD := hD.weaken (fun _ _ _ h => hFc _ h)
  generalize H1 = H at hP hS ⊢
  have hP : va_P D vwCl (pM cZ cI b 1 0 g0 (fun _ => false)) H := hP
  have hD : va_D A (pM cZ cI b 1 0 g0 (fun _ => false)) := hD
  subst hw
  refine rv_top (show _ = bI true from rfl) ?_
  refine rv_ifeqB (tgt := 12) hx hb dX3_doorsOf_5 (by decide) (fun c5_1 => ?_) (fun c5_1 => ?_)
  · skip
    exact Bool.noConfusion c5_1
  · skip
    refine lv_iconst (v := nI 0) hx hb dX3_doorsOf_8 (by decide) ?_
    refine lv_goto (tgt := 17) hx hb dX3_doorsOf_9 (by decide) ?_
    have hP9 : va_P D vwCl (pM cZ cI b 1 0 g0 (fun _ => false)) H := by exact hP
    have hD9 : va_D A (pM cZ cI b 1 0 g0 (fun _ => false)) := by exact hD
    exact W.iret (v := nI 0) hx hb hr (fun t ht hW => ⟨⟨_, (), rfl, rfl, by rw [ht]; exact hP9, hD9⟩, hS.F ht⟩) hS.2.2 dX3_doorsOf_17

set_option maxHeartbeats 4000000 in
set_option maxRecDepth 100000 in
theorem c_X3_isLocked (l : Launch) (D : va_G) (cZ cI : ClassId) (b : Nat → Nat) (t0 : Nat) (g0 : Option Nat) (sz : Nat) (x : Int32)  : Met l yX3_isLocked wsX3_isLocked ({ frames := 3, cells := 0, slots := 0, locals := 65 }) (WrP D cZ cI [.ref (b 0), .int (x)] (pM cZ cI b t0 0 g0 (fun _ => false)) sz) (WrI D (pM cZ cI b 1 0 g0 (fun _ => false)) (va_A (pM cZ cI b t0 0 g0 (fun _ => false)) sz) (bI false)) 0 0 (va_A (pM cZ cI b t0 0 g0 (fun _ => false)) sz) := by
  refine Met.ofW (cc := cX3_isLocked) (maxL := 2) (ret := (some .boolean)) (by decide) rfl ?_
  intro p e s m args below meth c s₁ B hml hv
  obtain ⟨rfl, hsz, hP, hZ, hD0⟩ := hv
  have hx := B.exec
  have hb := B.bytes
  have hr := B.returns
  have hts := atoms_spec (ws := wsX3_isLocked) B.pre
  have hown : s.vm.findClass RX3 = some m.cls := findClass_of_methodNamed B.named
  have hlocks := B.notSynchronized
  subst hsz
  have hD := hD0.self (sz := s.heap.size)
  generalize hAe : va_A (pM cZ cI b t0 0 g0 (fun _ => false)) s.heap.size = A at hD ⊢
  have hA : ∀ q : Nat, s.heap.size ≤ q → A q := fun q h => by rw [← hAe]; exact Or.inr h
  have hS : va_S A s.heap s.heap [] := va_S.rf
  have hP : va_P D vwCl (pM cZ cI b t0 0 g0 (fun _ => false)) s.heap := hP
  have hl := lv_entry ([.ref (b 0), .int (x)]) (n := 2) (Nat.le_of_ble_eq_true rfl)
  rw [lg_entry_eq]
  generalize (lg_sl ([.ref (b 0), .int (x)]) ++ List.replicate (2 - (lg_sl ([.ref (b 0), .int (x)])).length) Slot.unset).toArray = ls at hl ⊢
  have hl : lv_has ls 2 [(0, .ref (b 0)), (1, .int (x))] := hl
  have hin3 : ∀ w ∈ u_ws RX3 TX3 20, w ∈ wsX3_isLocked := by decide +kernel
  have hf29 := hts (.fieldLink RX3 29 "DoorChaseModel" "locked" "[Z") (by decide +kernel)
  refine lv_aload_n hx hb dX3_isLocked_0 rfl (lv_at hl 0 rfl) ?_
  refine lv_iload_n hx hb dX3_isLocked_1 rfl (lv_at hl 1 rfl) ?_
  have hFc := va_free (wc := pM cZ cI b t0 0 g0 (fun _ => false)) hD hS hA [0, 1, 2, 3, 4, 5, 6, 7, 8] rfl
  refine va_calli (va_runV (As := [.int (x)]) (rest := []) ⟨hx, hb, hml, hown, hts⟩ (c_X3_isNoDoor l D cZ cI b t0 g0 s.heap.size x ) (cwV 1 hts gX3_isLocked_X3_isNoDoor rfl rfl rfl (by decide +kernel) ⟨Nat.le_of_ble_eq_true rfl, Nat.le_of_ble_eq_true rfl⟩) ⟨WrP_blind, va_recv hZ.1 hP (ci := 3) (q0 := 0) rfl rfl, WrP_start hP hD hZ⟩ rfl rfl hl.1 rfl (lv_room (Nat.le_of_ble_eq_true rfl)) dX3_isLocked_2 ⟨Nat.le_of_ble_eq_true rfl, Nat.le_of_ble_eq_true rfl⟩) hS (fun q _ h => hFc q h) hFc (fun r9 u t H1 locs ht hvm hw hB hz1 hk1 hS => ?_)
  obtain ⟨hP, hD⟩ := hB
  rw [ht] at hP
  replace hD := hD.weaken (fun _ _ _ h => hFc _ h)
  generalize H1 = H at hP hS ⊢
  have hP : va_P D vwCl (pM cZ cI b 1 0 g0 (fun _ => false)) H := hP
  have hD : va_D A (pM cZ cI b 1 0 g0 (fun _ => false)) := hD
  subst hw
  refine rv_top (show _ = bI true from rfl) ?_
  refine rv_ifneB (tgt := 21) hx hb dX3_isLocked_5 (by decide) (fun c5_1 => ?_) (fun c5_1 => ?_)
  · skip
    refine lv_iconst (v := nI 0) hx hb dX3_isLocked_21 (by decide) ?_
    have hP9 : va_P D vwCl (pM cZ cI b 1 0 g0 (fun _ => false)) H := by exact hP
    have hD9 : va_D A (pM cZ cI b 1 0 g0 (fun _ => false)) := by exact hD
    exact W.zret (v := nI 0) hx hb hr rfl (fun t ht hW => ⟨⟨_, (), rfl, (show nI 0 = bI false from rfl), by rw [ht]; exact hP9, hD9⟩, hS.F ht⟩) hS.2.2 dX3_isLocked_22
  · skip
    exact Bool.noConfusion c5_1

set_option maxHeartbeats 4000000 in
set_option maxRecDepth 100000 in
theorem c_X3_isOpen (l : Launch) (D : va_G) (cZ cI : ClassId) (b : Nat → Nat) (t0 : Nat) (g0 : Option Nat) (sz : Nat) (x : Int32)  : Met l yX3_isOpen wsX3_isOpen ({ frames := 3, cells := 0, slots := 0, locals := 65 }) (WrP D cZ cI [.ref (b 0), .int (x)] (pM cZ cI b t0 0 g0 (fun _ => false)) sz) (WrI D (pM cZ cI b 1 0 g0 (fun _ => false)) (va_A (pM cZ cI b t0 0 g0 (fun _ => false)) sz) (bI false)) 0 0 (va_A (pM cZ cI b t0 0 g0 (fun _ => false)) sz) := by
  refine Met.ofW (cc := cX3_isOpen) (maxL := 2) (ret := (some .boolean)) (by decide) rfl ?_
  intro p e s m args below meth c s₁ B hml hv
  obtain ⟨rfl, hsz, hP, hZ, hD0⟩ := hv
  have hx := B.exec
  have hb := B.bytes
  have hr := B.returns
  have hts := atoms_spec (ws := wsX3_isOpen) B.pre
  have hown : s.vm.findClass RX3 = some m.cls := findClass_of_methodNamed B.named
  have hlocks := B.notSynchronized
  subst hsz
  have hD := hD0.self (sz := s.heap.size)
  generalize hAe : va_A (pM cZ cI b t0 0 g0 (fun _ => false)) s.heap.size = A at hD ⊢
  have hA : ∀ q : Nat, s.heap.size ≤ q → A q := fun q h => by rw [← hAe]; exact Or.inr h
  have hS : va_S A s.heap s.heap [] := va_S.rf
  have hP : va_P D vwCl (pM cZ cI b t0 0 g0 (fun _ => false)) s.heap := hP
  have hl := lv_entry ([.ref (b 0), .int (x)]) (n := 2) (Nat.le_of_ble_eq_true rfl)
  rw [lg_entry_eq]
  generalize (lg_sl ([.ref (b 0), .int (x)]) ++ List.replicate (2 - (lg_sl ([.ref (b 0), .int (x)])).length) Slot.unset).toArray = ls at hl ⊢
  have hl : lv_has ls 2 [(0, .ref (b 0)), (1, .int (x))] := hl
  have hin3 : ∀ w ∈ u_ws RX3 TX3 20, w ∈ wsX3_isOpen := by decide +kernel
  have hf92 := hts (.fieldLink RX3 92 "DoorChaseModel" "turn" "I") (by decide +kernel)
  refine lv_aload_n hx hb dX3_isOpen_0 rfl (lv_at hl 0 rfl) ?_
  refine lv_iload_n hx hb dX3_isOpen_1 rfl (lv_at hl 1 rfl) ?_
  have hFc := va_free (wc := pM cZ cI b t0 0 g0 (fun _ => false)) hD hS hA [0, 1, 2, 3, 4, 5, 6, 7, 8] rfl
  refine va_calli (va_runV (As := [.int (x)]) (rest := []) ⟨hx, hb, hml, hown, hts⟩ (c_X3_isNoDoor l D cZ cI b t0 g0 s.heap.size x ) (cwV 1 hts gX3_isOpen_X3_isNoDoor rfl rfl rfl (by decide +kernel) ⟨Nat.le_of_ble_eq_true rfl, Nat.le_of_ble_eq_true rfl⟩) ⟨WrP_blind, va_recv hZ.1 hP (ci := 3) (q0 := 0) rfl rfl, WrP_start hP hD hZ⟩ rfl rfl hl.1 rfl (lv_room (Nat.le_of_ble_eq_true rfl)) dX3_isOpen_2 ⟨Nat.le_of_ble_eq_true rfl, Nat.le_of_ble_eq_true rfl⟩) hS (fun q _ h => hFc q h) hFc (fun r9 u t H1 locs ht hvm hw hB hz1 hk1 hS => ?_)
  obtain ⟨hP, hD⟩ := hB
  rw [ht] at hP
  replace hD := hD.weaken (fun _ _ _ h => hFc _ h)
  generalize H1 = H at hP hS ⊢
  have hP : va_P D vwCl (pM cZ cI b 1 0 g0 (fun _ => false)) H := hP
  have hD : va_D A (pM cZ cI b 1 0 g0 (fun _ => false)) := hD
  subst hw
  refine rv_top (show _ = bI true from rfl) ?_
  refine rv_ifneB (tgt := 24) hx hb dX3_isOpen_5 (by decide) (fun c5_1 => ?_) (fun c5_1 => ?_)
  · skip
    refine lv_iconst (v := nI 0) hx hb dX3_isOpen_24 (by decide) ?_
    have hP9 : va_P D vwCl (pM cZ cI b 1 0 g0 (fun _ => false)) H := by exact hP
    have hD9 : va_D A (pM cZ cI b 1 0 g0 (fun _ => false)) := by exact hD
    exact W.zret (v := nI 0) hx hb hr rfl (fun t ht hW => ⟨⟨_, (), rfl, (show nI 0 = bI false from rfl), by rw [ht]; exact hP9, hD9⟩, hS.F ht⟩) hS.2.2 dX3_isOpen_25
  · skip
    exact Bool.noConfusion c5_1

set_option maxHeartbeats 4000000 in
set_option maxRecDepth 100000 in
theorem c_X3_turnsUntilOpen (l : Launch) (D : va_G) (cZ cI : ClassId) (b : Nat → Nat) (t0 : Nat) (g0 : Option Nat) (sz : Nat) (x : Int32)  : Met l yX3_turnsUntilOpen wsX3_turnsUntilOpen ({ frames := 3, cells := 0, slots := 0, locals := 65 }) (WrP D cZ cI [.ref (b 0), .int (x)] (pM cZ cI b t0 0 g0 (fun _ => false)) sz) (WrI D (pM cZ cI b 1 0 g0 (fun _ => false)) (va_A (pM cZ cI b t0 0 g0 (fun _ => false)) sz) (nI 0)) 0 0 (va_A (pM cZ cI b t0 0 g0 (fun _ => false)) sz) := by
  refine Met.ofW (cc := cX3_turnsUntilOpen) (maxL := 2) (ret := (some .int)) (by decide) rfl ?_
  intro p e s m args below meth c s₁ B hml hv
  obtain ⟨rfl, hsz, hP, hZ, hD0⟩ := hv
  have hx := B.exec
  have hb := B.bytes
  have hr := B.returns
  have hts := atoms_spec (ws := wsX3_turnsUntilOpen) B.pre
  have hown : s.vm.findClass RX3 = some m.cls := findClass_of_methodNamed B.named
  have hlocks := B.notSynchronized
  subst hsz
  have hD := hD0.self (sz := s.heap.size)
  generalize hAe : va_A (pM cZ cI b t0 0 g0 (fun _ => false)) s.heap.size = A at hD ⊢
  have hA : ∀ q : Nat, s.heap.size ≤ q → A q := fun q h => by rw [← hAe]; exact Or.inr h
  have hS : va_S A s.heap s.heap [] := va_S.rf
  have hP : va_P D vwCl (pM cZ cI b t0 0 g0 (fun _ => false)) s.heap := hP
  have hl := lv_entry ([.ref (b 0), .int (x)]) (n := 2) (Nat.le_of_ble_eq_true rfl)
  rw [lg_entry_eq]
  generalize (lg_sl ([.ref (b 0), .int (x)]) ++ List.replicate (2 - (lg_sl ([.ref (b 0), .int (x)])).length) Slot.unset).toArray = ls at hl ⊢
  have hl : lv_has ls 2 [(0, .ref (b 0)), (1, .int (x))] := hl
  refine lv_aload_n hx hb dX3_turnsUntilOpen_0 rfl (lv_at hl 0 rfl) ?_
  refine lv_iload_n hx hb dX3_turnsUntilOpen_1 rfl (lv_at hl 1 rfl) ?_
  have hFc := va_free (wc := pM cZ cI b t0 0 g0 (fun _ => false)) hD hS hA [0, 1, 2, 3, 4, 5, 6, 7, 8] rfl
  refine va_calli (va_runV (As := [.int (x)]) (rest := []) ⟨hx, hb, hml, hown, hts⟩ (c_X3_isNoDoor l D cZ cI b t0 g0 s.heap.size x ) (cwV 1 hts gX3_turnsUntilOpen_X3_isNoDoor rfl rfl rfl (by decide +kernel) ⟨Nat.le_of_ble_eq_true rfl, Nat.le_of_ble_eq_true rfl⟩) ⟨WrP_blind, va_recv hZ.1 hP (ci := 3) (q0 := 0) rfl rfl, WrP_start hP hD hZ⟩ rfl rfl hl.1 rfl (lv_room (Nat.le_of_ble_eq_true rfl)) dX3_turnsUntilOpen_2 ⟨Nat.le_of_ble_eq_true rfl, Nat.le_of_ble_eq_true rfl⟩) hS (fun q _ h => hFc q h) hFc (fun r9 u t H1 locs ht hvm hw hB hz1 hk1 hS => ?_)
  obtain ⟨hP, hD⟩ := hB
  rw [ht] at hP
  replace hD := hD.weaken (fun _ _ _ h => hFc _ h)
  generalize H1 = H at hP hS ⊢
  have hP : va_P D vwCl (pM cZ cI b 1 0 g0 (fun _ => false)) H := hP
  have hD : va_D A (pM cZ cI b 1 0 g0 (fun _ => false)) := hD
  subst hw
  refine rv_top (show _ = bI true from rfl) ?_
  refine rv_ifeqB (tgt := 12) hx hb dX3_turnsUntilOpen_5 (by decide) (fun c5_1 => ?_) (fun c5_1 => ?_)
  · skip
    exact Bool.noConfusion c5_1
  · skip
    refine lv_iconst (v := nI 0) hx hb dX3_turnsUntilOpen_8 (by decide) ?_
    refine lv_goto (tgt := 17) hx hb dX3_turnsUntilOpen_9 (by decide) ?_
    have hP9 : va_P D vwCl (pM cZ cI b 1 0 g0 (fun _ => false)) H := by exact hP
    have hD9 : va_D A (pM cZ cI b 1 0 g0 (fun _ => false)) := by exact hD
    exact W.iret (v := nI 0) hx hb hr (fun t ht hW => ⟨⟨_, (), rfl, rfl, by rw [ht]; exact hP9, hD9⟩, hS.F ht⟩) hS.2.2 dX3_turnsUntilOpen_17

set_option maxHeartbeats 4000000 in
set_option maxRecDepth 100000 in
theorem c_X3_doorBetween (l : Launch) (D : va_G) (cZ cI : ClassId) (b : Nat → Nat) (t0 : Nat) (g0 : Option Nat) (sz : Nat) (x : Int32) (y : Int32)  : Met l yX3_doorBetween wsX3_doorBetween ({ frames := 4, cells := 0, slots := 0, locals := 87 }) (WrP D cZ cI [.ref (b 0), .int (x), .int (y)] (pM cZ cI b t0 0 g0 (fun _ => false)) sz) (WrI D (pM cZ cI b 1 0 g0 (fun _ => false)) (va_A (pM cZ cI b t0 0 g0 (fun _ => false)) sz) (nI 0)) 0 0 (va_A (pM cZ cI b t0 0 g0 (fun _ => false)) sz) := by
  refine Met.ofW (cc := cX3_doorBetween) (maxL := 3) (ret := (some .int)) (by decide) rfl ?_
  intro p e s m args below meth c s₁ B hml hv
  obtain ⟨rfl, hsz, hP, hZ, hD0⟩ := hv
  have hx := B.exec
  have hb := B.bytes
  have hr := B.returns
  have hts := atoms_spec (ws := wsX3_doorBetween) B.pre
  have hown : s.vm.findClass RX3 = some m.cls := findClass_of_methodNamed B.named
  have hlocks := B.notSynchronized
  subst hsz
  have hD := hD0.self (sz := s.heap.size)
  generalize hAe : va_A (pM cZ cI b t0 0 g0 (fun _ => false)) s.heap.size = A at hD ⊢
  have hA : ∀ q : Nat, s.heap.size ≤ q → A q := fun q h => by rw [← hAe]; exact Or.inr h
  have hS : va_S A s.heap s.heap [] := va_S.rf
  have hP : va_P D vwCl (pM cZ cI b t0 0 g0 (fun _ => false)) s.heap := hP
  have hl := lv_entry ([.ref (b 0), .int (x), .int (y)]) (n := 3) (Nat.le_of_ble_eq_true rfl)
  rw [lg_entry_eq]
  generalize (lg_sl ([.ref (b 0), .int (x), .int (y)]) ++ List.replicate (3 - (lg_sl ([.ref (b 0), .int (x), .int (y)])).length) Slot.unset).toArray = ls at hl ⊢
  have hl : lv_has ls 3 [(0, .ref (b 0)), (1, .int (x)), (2, .int (y))] := hl
  refine lv_aload_n hx hb dX3_doorBetween_0 rfl (lv_at hl 0 rfl) ?_
  refine lv_iload_n hx hb dX3_doorBetween_1 rfl (lv_at hl 1 rfl) ?_
  refine lv_iload_n hx hb dX3_doorBetween_2 rfl (lv_at hl 2 rfl) ?_
  have hFc := va_free (wc := pM cZ cI b t0 0 g0 (fun _ => false)) hD hS hA [0, 1, 2, 3, 4, 5, 6, 7, 8] rfl
  refine va_calli (va_runV (As := [.int (x), .int (y)]) (rest := []) ⟨hx, hb, hml, hown, hts⟩ (c_X3_areNoRooms l D cZ cI b t0 g0 s.heap.size x y ) (cwV 2 hts gX3_doorBetween_X3_areNoRooms rfl rfl rfl (by decide +kernel) ⟨Nat.le_of_ble_eq_true rfl, Nat.le_of_ble_eq_true rfl⟩) ⟨WrP_blind, va_recv hZ.1 hP (ci := 3) (q0 := 0) rfl rfl, WrP_start hP hD hZ⟩ rfl rfl hl.1 rfl (lv_room (Nat.le_of_ble_eq_true rfl)) dX3_doorBetween_3 ⟨Nat.le_of_ble_eq_true rfl, Nat.le_of_ble_eq_true rfl⟩) hS (fun q _ h => hFc q h) hFc (fun r9 u t H1 locs ht hvm hw hB hz1 hk1 hS => ?_)
  obtain ⟨hP, hD⟩ := hB
  rw [ht] at hP
  replace hD := hD.weaken (fun _ _ _ h => hFc _ h)
  generalize H1 = H at hP hS ⊢
  have hP : va_P D vwCl (pM cZ cI b 1 0 g0 (fun _ => false)) H := hP
  have hD : va_D A (pM cZ cI b 1 0 g0 (fun _ => false)) := hD
  subst hw
  refine rv_top (show _ = bI true from rfl) ?_
  refine rv_ifeqB (tgt := 13) hx hb dX3_doorBetween_6 (by decide) (fun c6_1 => ?_) (fun c6_1 => ?_)
  · skip
    exact Bool.noConfusion c6_1
  · skip
    refine lv_iconst (v := nI 0) hx hb dX3_doorBetween_9 (by decide) ?_
    refine lv_goto (tgt := 19) hx hb dX3_doorBetween_10 (by decide) ?_
    have hP9 : va_P D vwCl (pM cZ cI b 1 0 g0 (fun _ => false)) H := by exact hP
    have hD9 : va_D A (pM cZ cI b 1 0 g0 (fun _ => false)) := by exact hD
    exact W.iret (v := nI 0) hx hb hr (fun t ht hW => ⟨⟨_, (), rfl, rfl, by rw [ht]; exact hP9, hD9⟩, hS.F ht⟩) hS.2.2 dX3_doorBetween_19

set_option maxHeartbeats 4000000 in
set_option maxRecDepth 100000 in
theorem c_X3_isWayOpen (l : Launch) (D : va_G) (cZ cI : ClassId) (b : Nat → Nat) (t0 : Nat) (g0 : Option Nat) (sz : Nat) (x : Int32) (y : Int32)  : Met l yX3_isWayOpen wsX3_isWayOpen ({ frames := 4, cells := 0, slots := 0, locals := 87 }) (WrP D cZ cI [.ref (b 0), .int (x), .int (y)] (pM cZ cI b t0 0 g0 (fun _ => false)) sz) (WrI D (pM cZ cI b 1 0 g0 (fun _ => false)) (va_A (pM cZ cI b t0 0 g0 (fun _ => false)) sz) (bI false)) 0 0 (va_A (pM cZ cI b t0 0 g0 (fun _ => false)) sz) := by
  refine Met.ofW (cc := cX3_isWayOpen) (maxL := 3) (ret := (some .boolean)) (by decide) rfl ?_
  intro p e s m args below meth c s₁ B hml hv
  obtain ⟨rfl, hsz, hP, hZ, hD0⟩ := hv
  have hx := B.exec
  have hb := B.bytes
  have hr := B.returns
  have hts := atoms_spec (ws := wsX3_isWayOpen) B.pre
  have hown : s.vm.findClass RX3 = some m.cls := findClass_of_methodNamed B.named
  have hlocks := B.notSynchronized
  subst hsz
  have hD := hD0.self (sz := s.heap.size)
  generalize hAe : va_A (pM cZ cI b t0 0 g0 (fun _ => false)) s.heap.size = A at hD ⊢
  have hA : ∀ q : Nat, s.heap.size ≤ q → A q := fun q h => by rw [← hAe]; exact Or.inr h
  have hS : va_S A s.heap s.heap [] := va_S.rf
  have hP : va_P D vwCl (pM cZ cI b t0 0 g0 (fun _ => false)) s.heap := hP
  have hl := lv_entry ([.ref (b 0), .int (x), .int (y)]) (n := 3) (Nat.le_of_ble_eq_true rfl)
  rw [lg_entry_eq]
  generalize (lg_sl ([.ref (b 0), .int (x), .int (y)]) ++ List.replicate (3 - (lg_sl ([.ref (b 0), .int (x), .int (y)])).length) Slot.unset).toArray = ls at hl ⊢
  have hl : lv_has ls 3 [(0, .ref (b 0)), (1, .int (x)), (2, .int (y))] := hl
  have hin3 : ∀ w ∈ u_ws RX3 TX3 20, w ∈ wsX3_isWayOpen := by decide +kernel
  have hf92 := hts (.fieldLink RX3 92 "DoorChaseModel" "turn" "I") (by decide +kernel)
  refine lv_aload_n hx hb dX3_isWayOpen_0 rfl (lv_at hl 0 rfl) ?_
  refine lv_iload_n hx hb dX3_isWayOpen_1 rfl (lv_at hl 1 rfl) ?_
  refine lv_iload_n hx hb dX3_isWayOpen_2 rfl (lv_at hl 2 rfl) ?_
  have hFc := va_free (wc := pM cZ cI b t0 0 g0 (fun _ => false)) hD hS hA [0, 1, 2, 3, 4, 5, 6, 7, 8] rfl
  refine va_calli (va_runV (As := [.int (x), .int (y)]) (rest := []) ⟨hx, hb, hml, hown, hts⟩ (c_X3_areNoRooms l D cZ cI b t0 g0 s.heap.size x y ) (cwV 2 hts gX3_isWayOpen_X3_areNoRooms rfl rfl rfl (by decide +kernel) ⟨Nat.le_of_ble_eq_true rfl, Nat.le_of_ble_eq_true rfl⟩) ⟨WrP_blind, va_recv hZ.1 hP (ci := 3) (q0 := 0) rfl rfl, WrP_start hP hD hZ⟩ rfl rfl hl.1 rfl (lv_room (Nat.le_of_ble_eq_true rfl)) dX3_isWayOpen_3 ⟨Nat.le_of_ble_eq_true rfl, Nat.le_of_ble_eq_true rfl⟩) hS (fun q _ h => hFc q h) hFc (fun r9 u t H1 locs ht hvm hw hB hz1 hk1 hS => ?_)
  obtain ⟨hP, hD⟩ := hB
  rw [ht] at hP
  replace hD := hD.weaken (fun _ _ _ h => hFc _ h)
  generalize H1 = H at hP hS ⊢
  have hP : va_P D vwCl (pM cZ cI b 1 0 g0 (fun _ => false)) H := hP
  have hD : va_D A (pM cZ cI b 1 0 g0 (fun _ => false)) := hD
  subst hw
  refine rv_top (show _ = bI true from rfl) ?_
  refine rv_ifneB (tgt := 39) hx hb dX3_isWayOpen_6 (by decide) (fun c6_1 => ?_) (fun c6_1 => ?_)
  · skip
    refine lv_iconst (v := nI 0) hx hb dX3_isWayOpen_39 (by decide) ?_
    have hP9 : va_P D vwCl (pM cZ cI b 1 0 g0 (fun _ => false)) H := by exact hP
    have hD9 : va_D A (pM cZ cI b 1 0 g0 (fun _ => false)) := by exact hD
    exact W.zret (v := nI 0) hx hb hr rfl (fun t ht hW => ⟨⟨_, (), rfl, (show nI 0 = bI false from rfl), by rw [ht]; exact hP9, hD9⟩, hS.F ht⟩) hS.2.2 dX3_isWayOpen_40
  · skip
    exact Bool.noConfusion c6_1

set_option maxHeartbeats 4000000 in
set_option maxRecDepth 100000 in
theorem c_X3_distance (l : Launch) (D : va_G) (cZ cI : ClassId) (b : Nat → Nat) (t0 : Nat) (g0 : Option Nat) (sz : Nat) (x : Int32) (y : Int32)  : Met l yX3_distance wsX3_distance ({ frames := 4, cells := 0, slots := 0, locals := 87 }) (WrP D cZ cI [.ref (b 0), .int (x), .int (y)] (pM cZ cI b t0 0 g0 (fun _ => false)) sz) (WrI D (pM cZ cI b 1 0 g0 (fun _ => false)) (va_A (pM cZ cI b t0 0 g0 (fun _ => false)) sz) (nI 0)) 0 0 (va_A (pM cZ cI b t0 0 g0 (fun _ => false)) sz) := by
  refine Met.ofW (cc := cX3_distance) (maxL := 3) (ret := (some .int)) (by decide) rfl ?_
  intro p e s m args below meth c s₁ B hml hv
  obtain ⟨rfl, hsz, hP, hZ, hD0⟩ := hv
  have hx := B.exec
  have hb := B.bytes
  have hr := B.returns
  have hts := atoms_spec (ws := wsX3_distance) B.pre
  have hown : s.vm.findClass RX3 = some m.cls := findClass_of_methodNamed B.named
  have hlocks := B.notSynchronized
  subst hsz
  have hD := hD0.self (sz := s.heap.size)
  generalize hAe : va_A (pM cZ cI b t0 0 g0 (fun _ => false)) s.heap.size = A at hD ⊢
  have hA : ∀ q : Nat, s.heap.size ≤ q → A q := fun q h => by rw [← hAe]; exact Or.inr h
  have hS : va_S A s.heap s.heap [] := va_S.rf
  have hP : va_P D vwCl (pM cZ cI b t0 0 g0 (fun _ => false)) s.heap := hP
  have hl := lv_entry ([.ref (b 0), .int (x), .int (y)]) (n := 3) (Nat.le_of_ble_eq_true rfl)
  rw [lg_entry_eq]
  generalize (lg_sl ([.ref (b 0), .int (x), .int (y)]) ++ List.replicate (3 - (lg_sl ([.ref (b 0), .int (x), .int (y)])).length) Slot.unset).toArray = ls at hl ⊢
  have hl : lv_has ls 3 [(0, .ref (b 0)), (1, .int (x)), (2, .int (y))] := hl
  refine lv_aload_n hx hb dX3_distance_0 rfl (lv_at hl 0 rfl) ?_
  refine lv_iload_n hx hb dX3_distance_1 rfl (lv_at hl 1 rfl) ?_
  refine lv_iload_n hx hb dX3_distance_2 rfl (lv_at hl 2 rfl) ?_
  have hFc := va_free (wc := pM cZ cI b t0 0 g0 (fun _ => false)) hD hS hA [0, 1, 2, 3, 4, 5, 6, 7, 8] rfl
  refine va_calli (va_runV (As := [.int (x), .int (y)]) (rest := []) ⟨hx, hb, hml, hown, hts⟩ (c_X3_areNoRooms l D cZ cI b t0 g0 s.heap.size x y ) (cwV 2 hts gX3_distance_X3_areNoRooms rfl rfl rfl (by decide +kernel) ⟨Nat.le_of_ble_eq_true rfl, Nat.le_of_ble_eq_true rfl⟩) ⟨WrP_blind, va_recv hZ.1 hP (ci := 3) (q0 := 0) rfl rfl, WrP_start hP hD hZ⟩ rfl rfl hl.1 rfl (lv_room (Nat.le_of_ble_eq_true rfl)) dX3_distance_3 ⟨Nat.le_of_ble_eq_true rfl, Nat.le_of_ble_eq_true rfl⟩) hS (fun q _ h => hFc q h) hFc (fun r9 u t H1 locs ht hvm hw hB hz1 hk1 hS => ?_)
  obtain ⟨hP, hD⟩ := hB
  rw [ht] at hP
  replace hD := hD.weaken (fun _ _ _ h => hFc _ h)
  generalize H1 = H at hP hS ⊢
  have hP : va_P D vwCl (pM cZ cI b 1 0 g0 (fun _ => false)) H := hP
  have hD : va_D A (pM cZ cI b 1 0 g0 (fun _ => false)) := hD
  subst hw
  refine rv_top (show _ = bI true from rfl) ?_
  refine rv_ifeqB (tgt := 13) hx hb dX3_distance_6 (by decide) (fun c6_1 => ?_) (fun c6_1 => ?_)
  · skip
    exact Bool.noConfusion c6_1
  · skip
    refine lv_iconst (v := nI 0) hx hb dX3_distance_9 (by decide) ?_
    refine lv_goto (tgt := 19) hx hb dX3_distance_10 (by decide) ?_
    have hP9 : va_P D vwCl (pM cZ cI b 1 0 g0 (fun _ => false)) H := by exact hP
    have hD9 : va_D A (pM cZ cI b 1 0 g0 (fun _ => false)) := by exact hD
    exact W.iret (v := nI 0) hx hb hr (fun t ht hW => ⟨⟨_, (), rfl, rfl, by rw [ht]; exact hP9, hD9⟩, hS.F ht⟩) hS.2.2 dX3_distance_19

set_option maxHeartbeats 4000000 in
set_option maxRecDepth 100000 in
theorem c_X3_catArrives (l : Launch) (D : va_G) (cZ cI : ClassId) (b : Nat → Nat) (t0 : Nat) (g0 : Option Nat) (sz : Nat) (x : Int32)  : Met l yX3_catArrives wsX3_catArrives ({ frames := 4, cells := 0, slots := 0, locals := 86 }) (WrP D cZ cI [.ref (b 0), .int (x)] (pM cZ cI b t0 0 g0 (fun _ => false)) sz) (WrI D (pM cZ cI b 1 0 g0 (fun _ => false)) (va_A (pM cZ cI b t0 0 g0 (fun _ => false)) sz) (nI 0)) 0 0 (va_A (pM cZ cI b t0 0 g0 (fun _ => false)) sz) := by
  refine Met.ofW (cc := cX3_catArrives) (maxL := 2) (ret := (some .int)) (by decide) rfl ?_
  intro p e s m args below meth c s₁ B hml hv
  obtain ⟨rfl, hsz, hP, hZ, hD0⟩ := hv
  have hx := B.exec
  have hb := B.bytes
  have hr := B.returns
  have hts := atoms_spec (ws := wsX3_catArrives) B.pre
  have hown : s.vm.findClass RX3 = some m.cls := findClass_of_methodNamed B.named
  have hlocks := B.notSynchronized
  subst hsz
  have hD := hD0.self (sz := s.heap.size)
  generalize hAe : va_A (pM cZ cI b t0 0 g0 (fun _ => false)) s.heap.size = A at hD ⊢
  have hA : ∀ q : Nat, s.heap.size ≤ q → A q := fun q h => by rw [← hAe]; exact Or.inr h
  have hS : va_S A s.heap s.heap [] := va_S.rf
  have hP : va_P D vwCl (pM cZ cI b t0 0 g0 (fun _ => false)) s.heap := hP
  have hl := lv_entry ([.ref (b 0), .int (x)]) (n := 2) (Nat.le_of_ble_eq_true rfl)
  rw [lg_entry_eq]
  generalize (lg_sl ([.ref (b 0), .int (x)]) ++ List.replicate (2 - (lg_sl ([.ref (b 0), .int (x)])).length) Slot.unset).toArray = ls at hl ⊢
  have hl : lv_has ls 2 [(0, .ref (b 0)), (1, .int (x))] := hl
  have hin3 : ∀ w ∈ u_ws RX3 TX3 20, w ∈ wsX3_catArrives := by decide +kernel
  have hf95 := hts (.fieldLink RX3 95 "DoorChaseModel" "cat" "I") (by decide +kernel)
  refine lv_aload_n hx hb dX3_catArrives_0 rfl (lv_at hl 0 rfl) ?_
  refine lv_iload_n hx hb dX3_catArrives_1 rfl (lv_at hl 1 rfl) ?_
  have hFc := va_free (wc := pM cZ cI b t0 0 g0 (fun _ => false)) hD hS hA [0, 1, 2, 3, 4, 5, 6, 7, 8] rfl
  refine va_calli (va_runV (As := [.int (x)]) (rest := []) ⟨hx, hb, hml, hown, hts⟩ (c_X3_isNoneOn l D cZ cI b t0 g0 s.heap.size x ) (cwV 1 hts gX3_catArrives_X3_isNoneOn rfl rfl rfl (by decide +kernel) ⟨Nat.le_of_ble_eq_true rfl, Nat.le_of_ble_eq_true rfl⟩) ⟨WrP_blind, va_recv hZ.1 hP (ci := 3) (q0 := 0) rfl rfl, WrP_start hP hD hZ⟩ rfl rfl hl.1 rfl (lv_room (Nat.le_of_ble_eq_true rfl)) dX3_catArrives_2 ⟨Nat.le_of_ble_eq_true rfl, Nat.le_of_ble_eq_true rfl⟩) hS (fun q _ h => hFc q h) hFc (fun r9 u t H1 locs ht hvm hw hB hz1 hk1 hS => ?_)
  obtain ⟨hP, hD⟩ := hB
  rw [ht] at hP
  replace hD := hD.weaken (fun _ _ _ h => hFc _ h)
  generalize H1 = H at hP hS ⊢
  have hP : va_P D vwCl (pM cZ cI b 1 0 g0 (fun _ => false)) H := hP
  have hD : va_D A (pM cZ cI b 1 0 g0 (fun _ => false)) := hD
  subst hw
  refine rv_top (show _ = bI true from rfl) ?_
  refine rv_ifeqB (tgt := 12) hx hb dX3_catArrives_5 (by decide) (fun c5_1 => ?_) (fun c5_1 => ?_)
  · skip
    exact Bool.noConfusion c5_1
  · skip
    refine lv_iconst (v := nI 0) hx hb dX3_catArrives_8 (by decide) ?_
    refine lv_goto (tgt := 22) hx hb dX3_catArrives_9 (by decide) ?_
    have hP9 : va_P D vwCl (pM cZ cI b 1 0 g0 (fun _ => false)) H := by exact hP
    have hD9 : va_D A (pM cZ cI b 1 0 g0 (fun _ => false)) := by exact hD
    exact W.iret (v := nI 0) hx hb hr (fun t ht hW => ⟨⟨_, (), rfl, rfl, by rw [ht]; exact hP9, hD9⟩, hS.F ht⟩) hS.2.2 dX3_catArrives_22

set_option maxHeartbeats 4000000 in
set_option maxRecDepth 100000 in
theorem c_X3_mouseArrives (l : Launch) (D : va_G) (cZ cI : ClassId) (b : Nat → Nat) (t0 : Nat) (g0 : Option Nat) (sz : Nat) (x : Int32)  : Met l yX3_mouseArrives wsX3_mouseArrives ({ frames := 4, cells := 0, slots := 0, locals := 86 }) (WrP D cZ cI [.ref (b 0), .int (x)] (pM cZ cI b t0 0 g0 (fun _ => false)) sz) (WrI D (pM cZ cI b 1 0 g0 (fun _ => false)) (va_A (pM cZ cI b t0 0 g0 (fun _ => false)) sz) (nI 0)) 0 0 (va_A (pM cZ cI b t0 0 g0 (fun _ => false)) sz) := by
  refine Met.ofW (cc := cX3_mouseArrives) (maxL := 2) (ret := (some .int)) (by decide) rfl ?_
  intro p e s m args below meth c s₁ B hml hv
  obtain ⟨rfl, hsz, hP, hZ, hD0⟩ := hv
  have hx := B.exec
  have hb := B.bytes
  have hr := B.returns
  have hts := atoms_spec (ws := wsX3_mouseArrives) B.pre
  have hown : s.vm.findClass RX3 = some m.cls := findClass_of_methodNamed B.named
  have hlocks := B.notSynchronized
  subst hsz
  have hD := hD0.self (sz := s.heap.size)
  generalize hAe : va_A (pM cZ cI b t0 0 g0 (fun _ => false)) s.heap.size = A at hD ⊢
  have hA : ∀ q : Nat, s.heap.size ≤ q → A q := fun q h => by rw [← hAe]; exact Or.inr h
  have hS : va_S A s.heap s.heap [] := va_S.rf
  have hP : va_P D vwCl (pM cZ cI b t0 0 g0 (fun _ => false)) s.heap := hP
  have hl := lv_entry ([.ref (b 0), .int (x)]) (n := 2) (Nat.le_of_ble_eq_true rfl)
  rw [lg_entry_eq]
  generalize (lg_sl ([.ref (b 0), .int (x)]) ++ List.replicate (2 - (lg_sl ([.ref (b 0), .int (x)])).length) Slot.unset).toArray = ls at hl ⊢
  have hl : lv_has ls 2 [(0, .ref (b 0)), (1, .int (x))] := hl
  have hin3 : ∀ w ∈ u_ws RX3 TX3 20, w ∈ wsX3_mouseArrives := by decide +kernel
  have hf98 := hts (.fieldLink RX3 98 "DoorChaseModel" "mouse" "I") (by decide +kernel)
  refine lv_aload_n hx hb dX3_mouseArrives_0 rfl (lv_at hl 0 rfl) ?_
  refine lv_iload_n hx hb dX3_mouseArrives_1 rfl (lv_at hl 1 rfl) ?_
  have hFc := va_free (wc := pM cZ cI b t0 0 g0 (fun _ => false)) hD hS hA [0, 1, 2, 3, 4, 5, 6, 7, 8] rfl
  refine va_calli (va_runV (As := [.int (x)]) (rest := []) ⟨hx, hb, hml, hown, hts⟩ (c_X3_isNoneOn l D cZ cI b t0 g0 s.heap.size x ) (cwV 1 hts gX3_mouseArrives_X3_isNoneOn rfl rfl rfl (by decide +kernel) ⟨Nat.le_of_ble_eq_true rfl, Nat.le_of_ble_eq_true rfl⟩) ⟨WrP_blind, va_recv hZ.1 hP (ci := 3) (q0 := 0) rfl rfl, WrP_start hP hD hZ⟩ rfl rfl hl.1 rfl (lv_room (Nat.le_of_ble_eq_true rfl)) dX3_mouseArrives_2 ⟨Nat.le_of_ble_eq_true rfl, Nat.le_of_ble_eq_true rfl⟩) hS (fun q _ h => hFc q h) hFc (fun r9 u t H1 locs ht hvm hw hB hz1 hk1 hS => ?_)
  obtain ⟨hP, hD⟩ := hB
  rw [ht] at hP
  replace hD := hD.weaken (fun _ _ _ h => hFc _ h)
  generalize H1 = H at hP hS ⊢
  have hP : va_P D vwCl (pM cZ cI b 1 0 g0 (fun _ => false)) H := hP
  have hD : va_D A (pM cZ cI b 1 0 g0 (fun _ => false)) := hD
  subst hw
  refine rv_top (show _ = bI true from rfl) ?_
  refine rv_ifeqB (tgt := 12) hx hb dX3_mouseArrives_5 (by decide) (fun c5_1 => ?_) (fun c5_1 => ?_)
  · skip
    exact Bool.noConfusion c5_1
  · skip
    refine lv_iconst (v := nI 0) hx hb dX3_mouseArrives_8 (by decide) ?_
    refine lv_goto (tgt := 22) hx hb dX3_mouseArrives_9 (by decide) ?_
    have hP9 : va_P D vwCl (pM cZ cI b 1 0 g0 (fun _ => false)) H := by exact hP
    have hD9 : va_D A (pM cZ cI b 1 0 g0 (fun _ => false)) := by exact hD
    exact W.iret (v := nI 0) hx hb hr (fun t ht hW => ⟨⟨_, (), rfl, rfl, by rw [ht]; exact hP9, hD9⟩, hS.F ht⟩) hS.2.2 dX3_mouseArrives_22

set_option maxHeartbeats 4000000 in
set_option maxRecDepth 100000 in
theorem c_X3_turnsFrom (l : Launch) (D : va_G) (cZ cI : ClassId) (b : Nat → Nat) (t0 : Nat) (g0 : Option Nat) (sz : Nat) (x : Int32) (y : Int32)  : Met l yX3_turnsFrom wsX3_turnsFrom ({ frames := 4, cells := 0, slots := 0, locals := 87 }) (WrP D cZ cI [.ref (b 0), .int (x), .int (y)] (pM cZ cI b t0 0 g0 (fun _ => false)) sz) (WrI D (pM cZ cI b 1 0 g0 (fun _ => false)) (va_A (pM cZ cI b t0 0 g0 (fun _ => false)) sz) (nI 0)) 0 0 (va_A (pM cZ cI b t0 0 g0 (fun _ => false)) sz) := by
  refine Met.ofW (cc := cX3_turnsFrom) (maxL := 3) (ret := (some .int)) (by decide) rfl ?_
  intro p e s m args below meth c s₁ B hml hv
  obtain ⟨rfl, hsz, hP, hZ, hD0⟩ := hv
  have hx := B.exec
  have hb := B.bytes
  have hr := B.returns
  have hts := atoms_spec (ws := wsX3_turnsFrom) B.pre
  have hown : s.vm.findClass RX3 = some m.cls := findClass_of_methodNamed B.named
  have hlocks := B.notSynchronized
  subst hsz
  have hD := hD0.self (sz := s.heap.size)
  generalize hAe : va_A (pM cZ cI b t0 0 g0 (fun _ => false)) s.heap.size = A at hD ⊢
  have hA : ∀ q : Nat, s.heap.size ≤ q → A q := fun q h => by rw [← hAe]; exact Or.inr h
  have hS : va_S A s.heap s.heap [] := va_S.rf
  have hP : va_P D vwCl (pM cZ cI b t0 0 g0 (fun _ => false)) s.heap := hP
  have hl := lv_entry ([.ref (b 0), .int (x), .int (y)]) (n := 3) (Nat.le_of_ble_eq_true rfl)
  rw [lg_entry_eq]
  generalize (lg_sl ([.ref (b 0), .int (x), .int (y)]) ++ List.replicate (3 - (lg_sl ([.ref (b 0), .int (x), .int (y)])).length) Slot.unset).toArray = ls at hl ⊢
  have hl : lv_has ls 3 [(0, .ref (b 0)), (1, .int (x)), (2, .int (y))] := hl
  have hin3 : ∀ w ∈ u_ws RX3 TX3 20, w ∈ wsX3_turnsFrom := by decide +kernel
  have hf9 := hts (.fieldLink RX3 9 "DoorChaseModel" "safe" "[Z") (by decide +kernel)
  have hf32 := hts (.fieldLink RX3 32 "DoorChaseModel" "sure" "[I") (by decide +kernel)
  have hf92 := hts (.fieldLink RX3 92 "DoorChaseModel" "turn" "I") (by decide +kernel)
  refine lv_aload_n hx hb dX3_turnsFrom_0 rfl (lv_at hl 0 rfl) ?_
  refine lv_iload_n hx hb dX3_turnsFrom_1 rfl (lv_at hl 1 rfl) ?_
  refine lv_iload_n hx hb dX3_turnsFrom_2 rfl (lv_at hl 2 rfl) ?_
  have hFc := va_free (wc := pM cZ cI b t0 0 g0 (fun _ => false)) hD hS hA [0, 1, 2, 3, 4, 5, 6, 7, 8] rfl
  refine va_calli (va_runV (As := [.int (x), .int (y)]) (rest := []) ⟨hx, hb, hml, hown, hts⟩ (c_X3_areNoRooms l D cZ cI b t0 g0 s.heap.size x y ) (cwV 2 hts gX3_turnsFrom_X3_areNoRooms rfl rfl rfl (by decide +kernel) ⟨Nat.le_of_ble_eq_true rfl, Nat.le_of_ble_eq_true rfl⟩) ⟨WrP_blind, va_recv hZ.1 hP (ci := 3) (q0 := 0) rfl rfl, WrP_start hP hD hZ⟩ rfl rfl hl.1 rfl (lv_room (Nat.le_of_ble_eq_true rfl)) dX3_turnsFrom_3 ⟨Nat.le_of_ble_eq_true rfl, Nat.le_of_ble_eq_true rfl⟩) hS (fun q _ h => hFc q h) hFc (fun r9 u t H1 locs ht hvm hw hB hz1 hk1 hS => ?_)
  obtain ⟨hP, hD⟩ := hB
  rw [ht] at hP
  replace hD := hD.weaken (fun _ _ _ h => hFc _ h)
  generalize H1 = H at hP hS ⊢
  have hP : va_P D vwCl (pM cZ cI b 1 0 g0 (fun _ => false)) H := hP
  have hD : va_D A (pM cZ cI b 1 0 g0 (fun _ => false)) := hD
  subst hw
  refine rv_top (show _ = bI true from rfl) ?_
  refine rv_ifneB (tgt := 23) hx hb dX3_turnsFrom_6 (by decide) (fun c6_1 => ?_) (fun c6_1 => ?_)
  · skip
    refine lv_iconst (v := nI 0) hx hb dX3_turnsFrom_23 (by decide) ?_
    have hP9 : va_P D vwCl (pM cZ cI b 1 0 g0 (fun _ => false)) H := by exact hP
    have hD9 : va_D A (pM cZ cI b 1 0 g0 (fun _ => false)) := by exact hD
    exact W.iret (v := nI 0) hx hb hr (fun t ht hW => ⟨⟨_, (), rfl, rfl, by rw [ht]; exact hP9, hD9⟩, hS.F ht⟩) hS.2.2 dX3_turnsFrom_24
  · skip
    exact Bool.noConfusion c6_1

set_option maxHeartbeats 4000000 in
set_option maxRecDepth 100000 in
theorem c_X3_play (l : Launch) (D : va_G) (cZ cI : ClassId) (b : Nat → Nat) (t0 : Nat) (g0 : Option Nat) (sz : Nat) (x : Int32)  : Met l yX3_play wsX3_play ({ frames := 2, cells := 0, slots := 0, locals := 52 }) (WrP D cZ cI [.ref (b 0), .int (x)] (pM cZ cI b t0 0 g0 (fun _ => false)) sz) (WrI D (pM cZ cI b (thp (decide (nI 1 ≤ x) && decide (x ≤ nI 60))) 0 g0 (fun _ => false)) (va_A (pM cZ cI b t0 0 g0 (fun _ => false)) sz) (nI 0)) 0 0 (va_A (pM cZ cI b t0 0 g0 (fun _ => false)) sz) := by
  refine Met.ofW (cc := cX3_play) (maxL := 3) (ret := (some .int)) (by decide) rfl ?_
  intro p e s m args below meth c s₁ B hml hv
  obtain ⟨rfl, hsz, hP, hZ, hD0⟩ := hv
  have hx := B.exec
  have hb := B.bytes
  have hr := B.returns
  have hts := atoms_spec (ws := wsX3_play) B.pre
  have hown : s.vm.findClass RX3 = some m.cls := findClass_of_methodNamed B.named
  have hlocks := B.notSynchronized
  subst hsz
  have hD := hD0.self (sz := s.heap.size)
  generalize hAe : va_A (pM cZ cI b t0 0 g0 (fun _ => false)) s.heap.size = A at hD ⊢
  have hA : ∀ q : Nat, s.heap.size ≤ q → A q := fun q h => by rw [← hAe]; exact Or.inr h
  have hS : va_S A s.heap s.heap [] := va_S.rf
  have hP : va_P D vwCl (pM cZ cI b t0 0 g0 (fun _ => false)) s.heap := hP
  have hl := lv_entry ([.ref (b 0), .int (x)]) (n := 3) (Nat.le_of_ble_eq_true rfl)
  rw [lg_entry_eq]
  generalize (lg_sl ([.ref (b 0), .int (x)]) ++ List.replicate (3 - (lg_sl ([.ref (b 0), .int (x)])).length) Slot.unset).toArray = ls at hl ⊢
  have hl : lv_has ls 3 [(0, .ref (b 0)), (1, .int (x))] := hl
  have hin3 : ∀ w ∈ u_ws RX3 TX3 20, w ∈ wsX3_play := by decide +kernel
  have hf85 := hts (.fieldLink RX3 85 "DoorChaseModel" "isOn" "Z") (by decide +kernel)
  refine lv_aload_n hx hb dX3_play_0 rfl (lv_at hl 0 rfl) ?_
  refine lv_iload_n hx hb dX3_play_1 rfl (lv_at hl 1 rfl) ?_
  refine lv_iconst (v := nI 1) hx hb dX3_play_2 (by decide) ?_
  refine lv_bipush (v := nI 60) hx hb dX3_play_3 (by decide) ?_
  refine vp_callSi (va_runS (As := [.int (x), .int (nI 1), .int (nI 60)]) (rest := [.ref (b 0)]) ⟨hx, hb, hml, hown, hts⟩ (c_X3_isIn l D cZ cI   x (nI 1) (nI 60) ) (va_cwS 3 hts gX3_play_X3_isIn rfl rfl rfl (by decide +kernel) ⟨Nat.le_of_ble_eq_true rfl, Nat.le_of_ble_eq_true rfl⟩) ⟨RdP_blind, RdP_start (hP.sub (ws' := []) [] rfl) hZ⟩ rfl rfl hl.1 rfl (lv_room (Nat.le_of_ble_eq_true rfl)) dX3_play_5 ⟨Nat.le_of_ble_eq_true rfl, Nat.le_of_ble_eq_true rfl⟩).run (fun r_1 hr_2 => ?_)
  subst hr_2
  refine rv_top (show _ = bI (decide ((nI 1) ≤ x) && decide (x ≤ (nI 60))) from rfl) ?_
  refine rv_ifneB (tgt := 15) hx hb dX3_play_8 (by decide) (fun c8_3 => ?_) (fun c8_3 => ?_)
  · skip
    refine lv_iconst (v := nI 0) hx hb dX3_play_15 (by decide) ?_
    refine rv_top (show nI 0 = bI false from rfl) ?_
    refine lv_iconst (v := nI 1) hx hb dX3_play_16 (by decide) ?_
    have hFc := va_free (wc := pM cZ cI b t0 0 g0 (fun _ => false)) hD hS hA [0, 1, 2, 3, 4, 5, 6, 7, 8] rfl
    refine va_calli (va_runV (As := [.int (bI false), .int (nI 1)]) (rest := []) ⟨hx, hb, hml, hown, hts⟩ (c_X3_start l D cZ cI b t0 g0 s.heap.size false 1 (by first | assumption | omega) (by first | assumption | omega)) (cwV 2 hts gX3_play_X3_start rfl rfl rfl (by decide +kernel) ⟨Nat.le_of_ble_eq_true rfl, Nat.le_of_ble_eq_true rfl⟩) ⟨WrP_blind, va_recv hZ.1 hP (ci := 3) (q0 := 0) rfl rfl, WrP_start hP hD hZ⟩ rfl rfl hl.1 rfl (lv_room (Nat.le_of_ble_eq_true rfl)) dX3_play_17 ⟨Nat.le_of_ble_eq_true rfl, Nat.le_of_ble_eq_true rfl⟩) hS (fun q _ h => hFc q h) hFc (fun r9 u t H1 locs ht hvm hw hB hz1 hk1 hS => ?_)
    obtain ⟨hP, hD⟩ := hB
    rw [ht] at hP
    replace hD := hD.weaken (fun _ _ _ h => hFc _ h)
    generalize H1 = H at hP hS ⊢
    have hP : va_P D vwCl (pM cZ cI b 0 0 g0 (fun _ => false)) H := hP
    have hD : va_D A (pM cZ cI b 0 0 g0 (fun _ => false)) := hD
    subst hw
    refine rv_top (show _ = bI false from rfl) ?_
    refine rv_ifneB (tgt := 43) hx hb dX3_play_20 (by decide) (fun c20_4 => ?_) (fun c20_4 => ?_)
    · skip
      exact Bool.noConfusion c20_4
    · skip
      refine lv_aload_n hx hb dX3_play_23 rfl (lv_at hl 0 rfl) ?_
      refine lv_aload_n hx hb dX3_play_24 rfl (lv_at hl 0 rfl) ?_
      refine va_get (D := D) (ci := 3) (v := .int (bI false)) (C := RX3) (T := TX3) (N := 20) hx hb hts hin3 hown hZ.1 hP 0 rfl rfl 11 (by decide) hf85 (fun _ h9 => h9) rfl dX3_play_25 ?_
      refine rv_ifneB (tgt := 35) hx hb dX3_play_28 (by decide) (fun c28_5 => ?_) (fun c28_5 => ?_)
      · skip
        exact Bool.noConfusion c28_5
      · skip
        refine lv_iconst (v := nI 1) hx hb dX3_play_31 (by decide) ?_
        refine rv_top (show nI 1 = bI true from rfl) ?_
        refine lv_goto (tgt := 36) hx hb dX3_play_32 (by decide) ?_
        refine lv_iconst (v := nI 2) hx hb dX3_play_36 (by decide) ?_
        have hFc := va_free (wc := pM cZ cI b 0 0 g0 (fun _ => false)) hD hS hA [0, 1, 2, 3, 4, 5, 6, 7, 8] rfl
        refine va_calli (va_runV (As := [.int (bI true), .int (nI 2)]) (rest := []) ⟨hx, hb, hml, hown, hts⟩ (c_X3_refuse l D cZ cI b g0 H.size true 2 (by first | assumption | omega) (by first | assumption | omega)) (cwV 2 hts gX3_play_X3_refuse rfl rfl rfl (by decide +kernel) ⟨Nat.le_of_ble_eq_true rfl, Nat.le_of_ble_eq_true rfl⟩) ⟨WrP_blind, va_recv hZ.1 hP (ci := 3) (q0 := 0) rfl rfl, WrP_start hP hD hZ⟩ rfl rfl hl.1 rfl (lv_room (Nat.le_of_ble_eq_true rfl)) dX3_play_37 ⟨Nat.le_of_ble_eq_true rfl, Nat.le_of_ble_eq_true rfl⟩) hS (fun q _ h => hFc q h) hFc (fun r9 u t H1 locs ht hvm hw hB hz1 hk1 hS => ?_)
        obtain ⟨hP, hD⟩ := hB
        rw [ht] at hP
        replace hD := hD.weaken (fun _ _ _ h => hFc _ h)
        generalize H1 = H at hP hS ⊢
        have hP : va_P D vwCl (pM cZ cI b 2 0 g0 (fun _ => false)) H := hP
        have hD : va_D A (pM cZ cI b 2 0 g0 (fun _ => false)) := hD
        subst hw
        refine rv_top (show _ = bI true from rfl) ?_
        refine rv_ifeqB (tgt := 45) hx hb dX3_play_40 (by decide) (fun c40_6 => ?_) (fun c40_6 => ?_)
        · skip
          exact Bool.noConfusion c40_6
        · skip
          refine lv_iconst (v := nI 0) hx hb dX3_play_43 (by decide) ?_
          have hP9 : va_P D vwCl (pM cZ cI b (thp (decide (nI 1 ≤ x) && decide (x ≤ nI 60))) 0 g0 (fun _ => false)) H := by (rw [show (decide (nI 1 ≤ x) && decide (x ≤ nI 60)) = true by assumption]; exact hP)
          have hD9 : va_D A (pM cZ cI b (thp (decide (nI 1 ≤ x) && decide (x ≤ nI 60))) 0 g0 (fun _ => false)) := by (rw [show (decide (nI 1 ≤ x) && decide (x ≤ nI 60)) = true by assumption]; exact hD)
          exact W.iret (v := nI 0) hx hb hr (fun t ht hW => ⟨⟨_, (), rfl, rfl, by rw [ht]; exact hP9, hD9⟩, hS.F ht⟩) hS.2.2 dX3_play_44
  · skip
    refine lv_iconst (v := nI 1) hx hb dX3_play_11 (by decide) ?_
    refine rv_top (show nI 1 = bI true from rfl) ?_
    refine lv_goto (tgt := 16) hx hb dX3_play_12 (by decide) ?_
    refine lv_iconst (v := nI 1) hx hb dX3_play_16 (by decide) ?_
    have hFc := va_free (wc := pM cZ cI b t0 0 g0 (fun _ => false)) hD hS hA [0, 1, 2, 3, 4, 5, 6, 7, 8] rfl
    refine va_calli (va_runV (As := [.int (bI true), .int (nI 1)]) (rest := []) ⟨hx, hb, hml, hown, hts⟩ (c_X3_start l D cZ cI b t0 g0 s.heap.size true 1 (by first | assumption | omega) (by first | assumption | omega)) (cwV 2 hts gX3_play_X3_start rfl rfl rfl (by decide +kernel) ⟨Nat.le_of_ble_eq_true rfl, Nat.le_of_ble_eq_true rfl⟩) ⟨WrP_blind, va_recv hZ.1 hP (ci := 3) (q0 := 0) rfl rfl, WrP_start hP hD hZ⟩ rfl rfl hl.1 rfl (lv_room (Nat.le_of_ble_eq_true rfl)) dX3_play_17 ⟨Nat.le_of_ble_eq_true rfl, Nat.le_of_ble_eq_true rfl⟩) hS (fun q _ h => hFc q h) hFc (fun r9 u t H1 locs ht hvm hw hB hz1 hk1 hS => ?_)
    obtain ⟨hP, hD⟩ := hB
    rw [ht] at hP
    replace hD := hD.weaken (fun _ _ _ h => hFc _ h)
    generalize H1 = H at hP hS ⊢
    have hP : va_P D vwCl (pM cZ cI b 1 0 g0 (fun _ => false)) H := hP
    have hD : va_D A (pM cZ cI b 1 0 g0 (fun _ => false)) := hD
    subst hw
    refine rv_top (show _ = bI true from rfl) ?_
    refine rv_ifneB (tgt := 43) hx hb dX3_play_20 (by decide) (fun c20_7 => ?_) (fun c20_7 => ?_)
    · skip
      refine lv_iconst (v := nI 0) hx hb dX3_play_43 (by decide) ?_
      have hP9 : va_P D vwCl (pM cZ cI b (thp (decide (nI 1 ≤ x) && decide (x ≤ nI 60))) 0 g0 (fun _ => false)) H := by (rw [show (decide (nI 1 ≤ x) && decide (x ≤ nI 60)) = false by assumption]; exact hP)
      have hD9 : va_D A (pM cZ cI b (thp (decide (nI 1 ≤ x) && decide (x ≤ nI 60))) 0 g0 (fun _ => false)) := by (rw [show (decide (nI 1 ≤ x) && decide (x ≤ nI 60)) = false by assumption]; exact hD)
      exact W.iret (v := nI 0) hx hb hr (fun t ht hW => ⟨⟨_, (), rfl, rfl, by rw [ht]; exact hP9, hD9⟩, hS.F ht⟩) hS.2.2 dX3_play_44
    · skip
      exact Bool.noConfusion c20_7

set_option maxHeartbeats 4000000 in
set_option maxRecDepth 100000 in
theorem c_X3_turn (l : Launch) (D : va_G) (cZ cI : ClassId) (b : Nat → Nat) (t0 : Nat) (g0 : Option Nat) (sz : Nat)   : Met l yX3_turn wsX3_turn ({ frames := 1, cells := 0, slots := 0, locals := 21 }) (WrP D cZ cI [.ref (b 0)] (pM cZ cI b t0 0 g0 (fun _ => false)) sz) (WrI D (pM cZ cI b 0 0 g0 (fun _ => false)) (va_A (pM cZ cI b t0 0 g0 (fun _ => false)) sz) (nI 0)) 0 0 (va_A (pM cZ cI b t0 0 g0 (fun _ => false)) sz) := by
  refine Met.ofW (cc := cX3_turn) (maxL := 1) (ret := (some .int)) (by decide) rfl ?_
  intro p e s m args below meth c s₁ B hml hv
  obtain ⟨rfl, hsz, hP, hZ, hD0⟩ := hv
  have hx := B.exec
  have hb := B.bytes
  have hr := B.returns
  have hts := atoms_spec (ws := wsX3_turn) B.pre
  have hown : s.vm.findClass RX3 = some m.cls := findClass_of_methodNamed B.named
  have hlocks := B.notSynchronized
  subst hsz
  have hD := hD0.self (sz := s.heap.size)
  generalize hAe : va_A (pM cZ cI b t0 0 g0 (fun _ => false)) s.heap.size = A at hD ⊢
  have hA : ∀ q : Nat, s.heap.size ≤ q → A q := fun q h => by rw [← hAe]; exact Or.inr h
  have hS : va_S A s.heap s.heap [] := va_S.rf
  have hP : va_P D vwCl (pM cZ cI b t0 0 g0 (fun _ => false)) s.heap := hP
  have hl := lv_entry ([.ref (b 0)]) (n := 1) (Nat.le_of_ble_eq_true rfl)
  rw [lg_entry_eq]
  generalize (lg_sl ([.ref (b 0)]) ++ List.replicate (1 - (lg_sl ([.ref (b 0)])).length) Slot.unset).toArray = ls at hl ⊢
  have hl : lv_has ls 1 [(0, .ref (b 0))] := hl
  have hin3 : ∀ w ∈ u_ws RX3 TX3 20, w ∈ wsX3_turn := by decide +kernel
  have hf92 := hts (.fieldLink RX3 92 "DoorChaseModel" "turn" "I") (by decide +kernel)
  refine lv_aload_n hx hb dX3_turn_0 rfl (lv_at hl 0 rfl) ?_
  refine lv_aload_n hx hb dX3_turn_1 rfl (lv_at hl 0 rfl) ?_
  refine va_get (D := D) (ci := 3) (v := .int (nI 0)) (C := RX3) (T := TX3) (N := 20) hx hb hts hin3 hown hZ.1 hP 0 rfl rfl 10 (by decide) hf92 (fun _ h9 => h9) rfl dX3_turn_2 ?_
  have hFc := va_free (wc := pM cZ cI b t0 0 g0 (fun _ => false)) hD hS hA [0, 1, 2, 3, 4, 5, 6, 7, 8] rfl
  refine va_calli (va_runV (As := [.int (nI 0)]) (rest := []) ⟨hx, hb, hml, hown, hts⟩ (c_X3_plain l D cZ cI b t0 g0 s.heap.size (nI 0) ) (cwV 1 hts gX3_turn_X3_plain rfl rfl rfl (by decide +kernel) ⟨Nat.le_of_ble_eq_true rfl, Nat.le_of_ble_eq_true rfl⟩) ⟨WrP_blind, va_recv hZ.1 hP (ci := 3) (q0 := 0) rfl rfl, WrP_start hP hD hZ⟩ rfl rfl hl.1 rfl (lv_room (Nat.le_of_ble_eq_true rfl)) dX3_turn_5 ⟨Nat.le_of_ble_eq_true rfl, Nat.le_of_ble_eq_true rfl⟩) hS (fun q _ h => hFc q h) hFc (fun r9 u t H1 locs ht hvm hw hB hz1 hk1 hS => ?_)
  obtain ⟨hP, hD⟩ := hB
  rw [ht] at hP
  replace hD := hD.weaken (fun _ _ _ h => hFc _ h)
  generalize H1 = H at hP hS ⊢
  have hP : va_P D vwCl (pM cZ cI b 0 0 g0 (fun _ => false)) H := hP
  have hD : va_D A (pM cZ cI b 0 0 g0 (fun _ => false)) := hD
  subst hw
  refine rv_top (show _ = (nI 0) from rfl) ?_
  have hP9 : va_P D vwCl (pM cZ cI b 0 0 g0 (fun _ => false)) H := by exact hP
  have hD9 : va_D A (pM cZ cI b 0 0 g0 (fun _ => false)) := by exact hD
  exact W.iret (v := (nI 0)) hx hb hr (fun t ht hW => ⟨⟨_, (), rfl, rfl, by rw [ht]; exact hP9, hD9⟩, hS.F ht⟩) hS.2.2 dX3_turn_8

set_option maxHeartbeats 4000000 in
set_option maxRecDepth 100000 in
theorem c_X3_rooms (l : Launch) (D : va_G) (cZ cI : ClassId) (b : Nat → Nat) (t0 : Nat) (g0 : Option Nat) (sz : Nat)   : Met l yX3_rooms wsX3_rooms ({ frames := 1, cells := 0, slots := 0, locals := 21 }) (WrP D cZ cI [.ref (b 0)] (pM cZ cI b t0 0 g0 (fun _ => false)) sz) (WrI D (pM cZ cI b 0 0 g0 (fun _ => false)) (va_A (pM cZ cI b t0 0 g0 (fun _ => false)) sz) (nI 0)) 0 0 (va_A (pM cZ cI b t0 0 g0 (fun _ => false)) sz) := by
  refine Met.ofW (cc := cX3_rooms) (maxL := 1) (ret := (some .int)) (by decide) rfl ?_
  intro p e s m args below meth c s₁ B hml hv
  obtain ⟨rfl, hsz, hP, hZ, hD0⟩ := hv
  have hx := B.exec
  have hb := B.bytes
  have hr := B.returns
  have hts := atoms_spec (ws := wsX3_rooms) B.pre
  have hown : s.vm.findClass RX3 = some m.cls := findClass_of_methodNamed B.named
  have hlocks := B.notSynchronized
  subst hsz
  have hD := hD0.self (sz := s.heap.size)
  generalize hAe : va_A (pM cZ cI b t0 0 g0 (fun _ => false)) s.heap.size = A at hD ⊢
  have hA : ∀ q : Nat, s.heap.size ≤ q → A q := fun q h => by rw [← hAe]; exact Or.inr h
  have hS : va_S A s.heap s.heap [] := va_S.rf
  have hP : va_P D vwCl (pM cZ cI b t0 0 g0 (fun _ => false)) s.heap := hP
  have hl := lv_entry ([.ref (b 0)]) (n := 1) (Nat.le_of_ble_eq_true rfl)
  rw [lg_entry_eq]
  generalize (lg_sl ([.ref (b 0)]) ++ List.replicate (1 - (lg_sl ([.ref (b 0)])).length) Slot.unset).toArray = ls at hl ⊢
  have hl : lv_has ls 1 [(0, .ref (b 0))] := hl
  have hin3 : ∀ w ∈ u_ws RX3 TX3 20, w ∈ wsX3_rooms := by decide +kernel
  have hf43 := hts (.fieldLink RX3 43 "DoorChaseModel" "rooms" "I") (by decide +kernel)
  refine lv_aload_n hx hb dX3_rooms_0 rfl (lv_at hl 0 rfl) ?_
  refine lv_aload_n hx hb dX3_rooms_1 rfl (lv_at hl 0 rfl) ?_
  refine va_get (D := D) (ci := 3) (v := .int (nI 0)) (C := RX3) (T := TX3) (N := 20) hx hb hts hin3 hown hZ.1 hP 0 rfl rfl 1 (by decide) hf43 (fun _ h9 => h9) rfl dX3_rooms_2 ?_
  have hFc := va_free (wc := pM cZ cI b t0 0 g0 (fun _ => false)) hD hS hA [0, 1, 2, 3, 4, 5, 6, 7, 8] rfl
  refine va_calli (va_runV (As := [.int (nI 0)]) (rest := []) ⟨hx, hb, hml, hown, hts⟩ (c_X3_plain l D cZ cI b t0 g0 s.heap.size (nI 0) ) (cwV 1 hts gX3_rooms_X3_plain rfl rfl rfl (by decide +kernel) ⟨Nat.le_of_ble_eq_true rfl, Nat.le_of_ble_eq_true rfl⟩) ⟨WrP_blind, va_recv hZ.1 hP (ci := 3) (q0 := 0) rfl rfl, WrP_start hP hD hZ⟩ rfl rfl hl.1 rfl (lv_room (Nat.le_of_ble_eq_true rfl)) dX3_rooms_5 ⟨Nat.le_of_ble_eq_true rfl, Nat.le_of_ble_eq_true rfl⟩) hS (fun q _ h => hFc q h) hFc (fun r9 u t H1 locs ht hvm hw hB hz1 hk1 hS => ?_)
  obtain ⟨hP, hD⟩ := hB
  rw [ht] at hP
  replace hD := hD.weaken (fun _ _ _ h => hFc _ h)
  generalize H1 = H at hP hS ⊢
  have hP : va_P D vwCl (pM cZ cI b 0 0 g0 (fun _ => false)) H := hP
  have hD : va_D A (pM cZ cI b 0 0 g0 (fun _ => false)) := hD
  subst hw
  refine rv_top (show _ = (nI 0) from rfl) ?_
  have hP9 : va_P D vwCl (pM cZ cI b 0 0 g0 (fun _ => false)) H := by exact hP
  have hD9 : va_D A (pM cZ cI b 0 0 g0 (fun _ => false)) := by exact hD
  exact W.iret (v := (nI 0)) hx hb hr (fun t ht hW => ⟨⟨_, (), rfl, rfl, by rw [ht]; exact hP9, hD9⟩, hS.F ht⟩) hS.2.2 dX3_rooms_8

set_option maxHeartbeats 4000000 in
set_option maxRecDepth 100000 in
theorem c_X3_doors (l : Launch) (D : va_G) (cZ cI : ClassId) (b : Nat → Nat) (t0 : Nat) (g0 : Option Nat) (sz : Nat)   : Met l yX3_doors wsX3_doors ({ frames := 1, cells := 0, slots := 0, locals := 21 }) (WrP D cZ cI [.ref (b 0)] (pM cZ cI b t0 0 g0 (fun _ => false)) sz) (WrI D (pM cZ cI b 0 0 g0 (fun _ => false)) (va_A (pM cZ cI b t0 0 g0 (fun _ => false)) sz) (nI 0)) 0 0 (va_A (pM cZ cI b t0 0 g0 (fun _ => false)) sz) := by
  refine Met.ofW (cc := cX3_doors) (maxL := 1) (ret := (some .int)) (by decide) rfl ?_
  intro p e s m args below meth c s₁ B hml hv
  obtain ⟨rfl, hsz, hP, hZ, hD0⟩ := hv
  have hx := B.exec
  have hb := B.bytes
  have hr := B.returns
  have hts := atoms_spec (ws := wsX3_doors) B.pre
  have hown : s.vm.findClass RX3 = some m.cls := findClass_of_methodNamed B.named
  have hlocks := B.notSynchronized
  subst hsz
  have hD := hD0.self (sz := s.heap.size)
  generalize hAe : va_A (pM cZ cI b t0 0 g0 (fun _ => false)) s.heap.size = A at hD ⊢
  have hA : ∀ q : Nat, s.heap.size ≤ q → A q := fun q h => by rw [← hAe]; exact Or.inr h
  have hS : va_S A s.heap s.heap [] := va_S.rf
  have hP : va_P D vwCl (pM cZ cI b t0 0 g0 (fun _ => false)) s.heap := hP
  have hl := lv_entry ([.ref (b 0)]) (n := 1) (Nat.le_of_ble_eq_true rfl)
  rw [lg_entry_eq]
  generalize (lg_sl ([.ref (b 0)]) ++ List.replicate (1 - (lg_sl ([.ref (b 0)])).length) Slot.unset).toArray = ls at hl ⊢
  have hl : lv_has ls 1 [(0, .ref (b 0))] := hl
  have hin3 : ∀ w ∈ u_ws RX3 TX3 20, w ∈ wsX3_doors := by decide +kernel
  have hf57 := hts (.fieldLink RX3 57 "DoorChaseModel" "doors" "I") (by decide +kernel)
  refine lv_aload_n hx hb dX3_doors_0 rfl (lv_at hl 0 rfl) ?_
  refine lv_aload_n hx hb dX3_doors_1 rfl (lv_at hl 0 rfl) ?_
  refine va_get (D := D) (ci := 3) (v := .int (nI 0)) (C := RX3) (T := TX3) (N := 20) hx hb hts hin3 hown hZ.1 hP 0 rfl rfl 2 (by decide) hf57 (fun _ h9 => h9) rfl dX3_doors_2 ?_
  have hFc := va_free (wc := pM cZ cI b t0 0 g0 (fun _ => false)) hD hS hA [0, 1, 2, 3, 4, 5, 6, 7, 8] rfl
  refine va_calli (va_runV (As := [.int (nI 0)]) (rest := []) ⟨hx, hb, hml, hown, hts⟩ (c_X3_plain l D cZ cI b t0 g0 s.heap.size (nI 0) ) (cwV 1 hts gX3_doors_X3_plain rfl rfl rfl (by decide +kernel) ⟨Nat.le_of_ble_eq_true rfl, Nat.le_of_ble_eq_true rfl⟩) ⟨WrP_blind, va_recv hZ.1 hP (ci := 3) (q0 := 0) rfl rfl, WrP_start hP hD hZ⟩ rfl rfl hl.1 rfl (lv_room (Nat.le_of_ble_eq_true rfl)) dX3_doors_5 ⟨Nat.le_of_ble_eq_true rfl, Nat.le_of_ble_eq_true rfl⟩) hS (fun q _ h => hFc q h) hFc (fun r9 u t H1 locs ht hvm hw hB hz1 hk1 hS => ?_)
  obtain ⟨hP, hD⟩ := hB
  rw [ht] at hP
  replace hD := hD.weaken (fun _ _ _ h => hFc _ h)
  generalize H1 = H at hP hS ⊢
  have hP : va_P D vwCl (pM cZ cI b 0 0 g0 (fun _ => false)) H := hP
  have hD : va_D A (pM cZ cI b 0 0 g0 (fun _ => false)) := hD
  subst hw
  refine rv_top (show _ = (nI 0) from rfl) ?_
  have hP9 : va_P D vwCl (pM cZ cI b 0 0 g0 (fun _ => false)) H := by exact hP
  have hD9 : va_D A (pM cZ cI b 0 0 g0 (fun _ => false)) := by exact hD
  exact W.iret (v := (nI 0)) hx hb hr (fun t ht hW => ⟨⟨_, (), rfl, rfl, by rw [ht]; exact hP9, hD9⟩, hS.F ht⟩) hS.2.2 dX3_doors_8

set_option maxHeartbeats 4000000 in
set_option maxRecDepth 100000 in
theorem c_X3_eaten (l : Launch) (D : va_G) (cZ cI : ClassId) (b : Nat → Nat) (t0 : Nat) (g0 : Option Nat) (sz : Nat)   : Met l yX3_eaten wsX3_eaten ({ frames := 1, cells := 0, slots := 0, locals := 21 }) (WrP D cZ cI [.ref (b 0)] (pM cZ cI b t0 0 g0 (fun _ => false)) sz) (WrI D (pM cZ cI b 0 0 g0 (fun _ => false)) (va_A (pM cZ cI b t0 0 g0 (fun _ => false)) sz) (nI 0)) 0 0 (va_A (pM cZ cI b t0 0 g0 (fun _ => false)) sz) := by
  refine Met.ofW (cc := cX3_eaten) (maxL := 1) (ret := (some .int)) (by decide) rfl ?_
  intro p e s m args below meth c s₁ B hml hv
  obtain ⟨rfl, hsz, hP, hZ, hD0⟩ := hv
  have hx := B.exec
  have hb := B.bytes
  have hr := B.returns
  have hts := atoms_spec (ws := wsX3_eaten) B.pre
  have hown : s.vm.findClass RX3 = some m.cls := findClass_of_methodNamed B.named
  have hlocks := B.notSynchronized
  subst hsz
  have hD := hD0.self (sz := s.heap.size)
  generalize hAe : va_A (pM cZ cI b t0 0 g0 (fun _ => false)) s.heap.size = A at hD ⊢
  have hA : ∀ q : Nat, s.heap.size ≤ q → A q := fun q h => by rw [← hAe]; exact Or.inr h
  have hS : va_S A s.heap s.heap [] := va_S.rf
  have hP : va_P D vwCl (pM cZ cI b t0 0 g0 (fun _ => false)) s.heap := hP
  have hl := lv_entry ([.ref (b 0)]) (n := 1) (Nat.le_of_ble_eq_true rfl)
  rw [lg_entry_eq]
  generalize (lg_sl ([.ref (b 0)]) ++ List.replicate (1 - (lg_sl ([.ref (b 0)])).length) Slot.unset).toArray = ls at hl ⊢
  have hl : lv_has ls 1 [(0, .ref (b 0))] := hl
  have hin3 : ∀ w ∈ u_ws RX3 TX3 20, w ∈ wsX3_eaten := by decide +kernel
  have hf110 := hts (.fieldLink RX3 110 "DoorChaseModel" "eaten" "I") (by decide +kernel)
  refine lv_aload_n hx hb dX3_eaten_0 rfl (lv_at hl 0 rfl) ?_
  refine lv_aload_n hx hb dX3_eaten_1 rfl (lv_at hl 0 rfl) ?_
  refine va_get (D := D) (ci := 3) (v := .int (nI 0)) (C := RX3) (T := TX3) (N := 20) hx hb hts hin3 hown hZ.1 hP 0 rfl rfl 15 (by decide) hf110 (fun _ h9 => h9) rfl dX3_eaten_2 ?_
  have hFc := va_free (wc := pM cZ cI b t0 0 g0 (fun _ => false)) hD hS hA [0, 1, 2, 3, 4, 5, 6, 7, 8] rfl
  refine va_calli (va_runV (As := [.int (nI 0)]) (rest := []) ⟨hx, hb, hml, hown, hts⟩ (c_X3_plain l D cZ cI b t0 g0 s.heap.size (nI 0) ) (cwV 1 hts gX3_eaten_X3_plain rfl rfl rfl (by decide +kernel) ⟨Nat.le_of_ble_eq_true rfl, Nat.le_of_ble_eq_true rfl⟩) ⟨WrP_blind, va_recv hZ.1 hP (ci := 3) (q0 := 0) rfl rfl, WrP_start hP hD hZ⟩ rfl rfl hl.1 rfl (lv_room (Nat.le_of_ble_eq_true rfl)) dX3_eaten_5 ⟨Nat.le_of_ble_eq_true rfl, Nat.le_of_ble_eq_true rfl⟩) hS (fun q _ h => hFc q h) hFc (fun r9 u t H1 locs ht hvm hw hB hz1 hk1 hS => ?_)
  obtain ⟨hP, hD⟩ := hB
  rw [ht] at hP
  replace hD := hD.weaken (fun _ _ _ h => hFc _ h)
  generalize H1 = H at hP hS ⊢
  have hP : va_P D vwCl (pM cZ cI b 0 0 g0 (fun _ => false)) H := hP
  have hD : va_D A (pM cZ cI b 0 0 g0 (fun _ => false)) := hD
  subst hw
  refine rv_top (show _ = (nI 0) from rfl) ?_
  have hP9 : va_P D vwCl (pM cZ cI b 0 0 g0 (fun _ => false)) H := by exact hP
  have hD9 : va_D A (pM cZ cI b 0 0 g0 (fun _ => false)) := by exact hD
  exact W.iret (v := (nI 0)) hx hb hr (fun t ht hW => ⟨⟨_, (), rfl, rfl, by rw [ht]; exact hP9, hD9⟩, hS.F ht⟩) hS.2.2 dX3_eaten_8

set_option maxHeartbeats 4000000 in
set_option maxRecDepth 100000 in
theorem c_X3_catIn (l : Launch) (D : va_G) (cZ cI : ClassId) (b : Nat → Nat) (t0 : Nat) (g0 : Option Nat) (sz : Nat)   : Met l yX3_catIn wsX3_catIn ({ frames := 1, cells := 0, slots := 0, locals := 21 }) (WrP D cZ cI [.ref (b 0)] (pM cZ cI b t0 0 g0 (fun _ => false)) sz) (WrI D (pM cZ cI b 0 0 g0 (fun _ => false)) (va_A (pM cZ cI b t0 0 g0 (fun _ => false)) sz) ((-1))) 0 0 (va_A (pM cZ cI b t0 0 g0 (fun _ => false)) sz) := by
  refine Met.ofW (cc := cX3_catIn) (maxL := 1) (ret := (some .int)) (by decide) rfl ?_
  intro p e s m args below meth c s₁ B hml hv
  obtain ⟨rfl, hsz, hP, hZ, hD0⟩ := hv
  have hx := B.exec
  have hb := B.bytes
  have hr := B.returns
  have hts := atoms_spec (ws := wsX3_catIn) B.pre
  have hown : s.vm.findClass RX3 = some m.cls := findClass_of_methodNamed B.named
  have hlocks := B.notSynchronized
  subst hsz
  have hD := hD0.self (sz := s.heap.size)
  generalize hAe : va_A (pM cZ cI b t0 0 g0 (fun _ => false)) s.heap.size = A at hD ⊢
  have hA : ∀ q : Nat, s.heap.size ≤ q → A q := fun q h => by rw [← hAe]; exact Or.inr h
  have hS : va_S A s.heap s.heap [] := va_S.rf
  have hP : va_P D vwCl (pM cZ cI b t0 0 g0 (fun _ => false)) s.heap := hP
  have hl := lv_entry ([.ref (b 0)]) (n := 1) (Nat.le_of_ble_eq_true rfl)
  rw [lg_entry_eq]
  generalize (lg_sl ([.ref (b 0)]) ++ List.replicate (1 - (lg_sl ([.ref (b 0)])).length) Slot.unset).toArray = ls at hl ⊢
  have hl : lv_has ls 1 [(0, .ref (b 0))] := hl
  have hin3 : ∀ w ∈ u_ws RX3 TX3 20, w ∈ wsX3_catIn := by decide +kernel
  have hf85 := hts (.fieldLink RX3 85 "DoorChaseModel" "isOn" "Z") (by decide +kernel)
  have hf95 := hts (.fieldLink RX3 95 "DoorChaseModel" "cat" "I") (by decide +kernel)
  refine lv_aload_n hx hb dX3_catIn_0 rfl (lv_at hl 0 rfl) ?_
  refine lv_aload_n hx hb dX3_catIn_1 rfl (lv_at hl 0 rfl) ?_
  refine va_get (D := D) (ci := 3) (v := .int (bI false)) (C := RX3) (T := TX3) (N := 20) hx hb hts hin3 hown hZ.1 hP 0 rfl rfl 11 (by decide) hf85 (fun _ h9 => h9) rfl dX3_catIn_2 ?_
  refine rv_ifeqB (tgt := 15) hx hb dX3_catIn_5 (by decide) (fun c5_1 => ?_) (fun c5_1 => ?_)
  · skip
    refine lv_iconst (v := (-1)) hx hb dX3_catIn_15 (by decide) ?_
    have hFc := va_free (wc := pM cZ cI b t0 0 g0 (fun _ => false)) hD hS hA [0, 1, 2, 3, 4, 5, 6, 7, 8] rfl
    refine va_calli (va_runV (As := [.int ((-1))]) (rest := []) ⟨hx, hb, hml, hown, hts⟩ (c_X3_plain l D cZ cI b t0 g0 s.heap.size (-1) ) (cwV 1 hts gX3_catIn_X3_plain rfl rfl rfl (by decide +kernel) ⟨Nat.le_of_ble_eq_true rfl, Nat.le_of_ble_eq_true rfl⟩) ⟨WrP_blind, va_recv hZ.1 hP (ci := 3) (q0 := 0) rfl rfl, WrP_start hP hD hZ⟩ rfl rfl hl.1 rfl (lv_room (Nat.le_of_ble_eq_true rfl)) dX3_catIn_16 ⟨Nat.le_of_ble_eq_true rfl, Nat.le_of_ble_eq_true rfl⟩) hS (fun q _ h => hFc q h) hFc (fun r9 u t H1 locs ht hvm hw hB hz1 hk1 hS => ?_)
    obtain ⟨hP, hD⟩ := hB
    rw [ht] at hP
    replace hD := hD.weaken (fun _ _ _ h => hFc _ h)
    generalize H1 = H at hP hS ⊢
    have hP : va_P D vwCl (pM cZ cI b 0 0 g0 (fun _ => false)) H := hP
    have hD : va_D A (pM cZ cI b 0 0 g0 (fun _ => false)) := hD
    subst hw
    refine rv_top (show _ = (-1) from rfl) ?_
    have hP9 : va_P D vwCl (pM cZ cI b 0 0 g0 (fun _ => false)) H := by exact hP
    have hD9 : va_D A (pM cZ cI b 0 0 g0 (fun _ => false)) := by exact hD
    exact W.iret (v := (-1)) hx hb hr (fun t ht hW => ⟨⟨_, (), rfl, rfl, by rw [ht]; exact hP9, hD9⟩, hS.F ht⟩) hS.2.2 dX3_catIn_19
  · skip
    exact Bool.noConfusion c5_1

set_option maxHeartbeats 4000000 in
set_option maxRecDepth 100000 in
theorem c_X3_mouseIn (l : Launch) (D : va_G) (cZ cI : ClassId) (b : Nat → Nat) (t0 : Nat) (g0 : Option Nat) (sz : Nat)   : Met l yX3_mouseIn wsX3_mouseIn ({ frames := 1, cells := 0, slots := 0, locals := 21 }) (WrP D cZ cI [.ref (b 0)] (pM cZ cI b t0 0 g0 (fun _ => false)) sz) (WrI D (pM cZ cI b 0 0 g0 (fun _ => false)) (va_A (pM cZ cI b t0 0 g0 (fun _ => false)) sz) ((-1))) 0 0 (va_A (pM cZ cI b t0 0 g0 (fun _ => false)) sz) := by
  refine Met.ofW (cc := cX3_mouseIn) (maxL := 1) (ret := (some .int)) (by decide) rfl ?_
  intro p e s m args below meth c s₁ B hml hv
  obtain ⟨rfl, hsz, hP, hZ, hD0⟩ := hv
  have hx := B.exec
  have hb := B.bytes
  have hr := B.returns
  have hts := atoms_spec (ws := wsX3_mouseIn) B.pre
  have hown : s.vm.findClass RX3 = some m.cls := findClass_of_methodNamed B.named
  have hlocks := B.notSynchronized
  subst hsz
  have hD := hD0.self (sz := s.heap.size)
  generalize hAe : va_A (pM cZ cI b t0 0 g0 (fun _ => false)) s.heap.size = A at hD ⊢
  have hA : ∀ q : Nat, s.heap.size ≤ q → A q := fun q h => by rw [← hAe]; exact Or.inr h
  have hS : va_S A s.heap s.heap [] := va_S.rf
  have hP : va_P D vwCl (pM cZ cI b t0 0 g0 (fun _ => false)) s.heap := hP
  have hl := lv_entry ([.ref (b 0)]) (n := 1) (Nat.le_of_ble_eq_true rfl)
  rw [lg_entry_eq]
  generalize (lg_sl ([.ref (b 0)]) ++ List.replicate (1 - (lg_sl ([.ref (b 0)])).length) Slot.unset).toArray = ls at hl ⊢
  have hl : lv_has ls 1 [(0, .ref (b 0))] := hl
  have hin3 : ∀ w ∈ u_ws RX3 TX3 20, w ∈ wsX3_mouseIn := by decide +kernel
  have hf85 := hts (.fieldLink RX3 85 "DoorChaseModel" "isOn" "Z") (by decide +kernel)
  have hf98 := hts (.fieldLink RX3 98 "DoorChaseModel" "mouse" "I") (by decide +kernel)
  refine lv_aload_n hx hb dX3_mouseIn_0 rfl (lv_at hl 0 rfl) ?_
  refine lv_aload_n hx hb dX3_mouseIn_1 rfl (lv_at hl 0 rfl) ?_
  refine va_get (D := D) (ci := 3) (v := .int (bI false)) (C := RX3) (T := TX3) (N := 20) hx hb hts hin3 hown hZ.1 hP 0 rfl rfl 11 (by decide) hf85 (fun _ h9 => h9) rfl dX3_mouseIn_2 ?_
  refine rv_ifeqB (tgt := 15) hx hb dX3_mouseIn_5 (by decide) (fun c5_1 => ?_) (fun c5_1 => ?_)
  · skip
    refine lv_iconst (v := (-1)) hx hb dX3_mouseIn_15 (by decide) ?_
    have hFc := va_free (wc := pM cZ cI b t0 0 g0 (fun _ => false)) hD hS hA [0, 1, 2, 3, 4, 5, 6, 7, 8] rfl
    refine va_calli (va_runV (As := [.int ((-1))]) (rest := []) ⟨hx, hb, hml, hown, hts⟩ (c_X3_plain l D cZ cI b t0 g0 s.heap.size (-1) ) (cwV 1 hts gX3_mouseIn_X3_plain rfl rfl rfl (by decide +kernel) ⟨Nat.le_of_ble_eq_true rfl, Nat.le_of_ble_eq_true rfl⟩) ⟨WrP_blind, va_recv hZ.1 hP (ci := 3) (q0 := 0) rfl rfl, WrP_start hP hD hZ⟩ rfl rfl hl.1 rfl (lv_room (Nat.le_of_ble_eq_true rfl)) dX3_mouseIn_16 ⟨Nat.le_of_ble_eq_true rfl, Nat.le_of_ble_eq_true rfl⟩) hS (fun q _ h => hFc q h) hFc (fun r9 u t H1 locs ht hvm hw hB hz1 hk1 hS => ?_)
    obtain ⟨hP, hD⟩ := hB
    rw [ht] at hP
    replace hD := hD.weaken (fun _ _ _ h => hFc _ h)
    generalize H1 = H at hP hS ⊢
    have hP : va_P D vwCl (pM cZ cI b 0 0 g0 (fun _ => false)) H := hP
    have hD : va_D A (pM cZ cI b 0 0 g0 (fun _ => false)) := hD
    subst hw
    refine rv_top (show _ = (-1) from rfl) ?_
    have hP9 : va_P D vwCl (pM cZ cI b 0 0 g0 (fun _ => false)) H := by exact hP
    have hD9 : va_D A (pM cZ cI b 0 0 g0 (fun _ => false)) := by exact hD
    exact W.iret (v := (-1)) hx hb hr (fun t ht hW => ⟨⟨_, (), rfl, rfl, by rw [ht]; exact hP9, hD9⟩, hS.F ht⟩) hS.2.2 dX3_mouseIn_19
  · skip
    exact Bool.noConfusion c5_1

set_option maxHeartbeats 4000000 in
set_option maxRecDepth 100000 in
theorem c_X3_isOn (l : Launch) (D : va_G) (cZ cI : ClassId) (b : Nat → Nat) (t0 : Nat) (g0 : Option Nat) (sz : Nat)   : Met l yX3_isOn wsX3_isOn ({ frames := 1, cells := 0, slots := 0, locals := 21 }) (WrP D cZ cI [.ref (b 0)] (pM cZ cI b t0 0 g0 (fun _ => false)) sz) (WrI D (pM cZ cI b 0 0 g0 (fun _ => false)) (va_A (pM cZ cI b t0 0 g0 (fun _ => false)) sz) (bI false)) 0 0 (va_A (pM cZ cI b t0 0 g0 (fun _ => false)) sz) := by
  refine Met.ofW (cc := cX3_isOn) (maxL := 1) (ret := (some .boolean)) (by decide) rfl ?_
  intro p e s m args below meth c s₁ B hml hv
  obtain ⟨rfl, hsz, hP, hZ, hD0⟩ := hv
  have hx := B.exec
  have hb := B.bytes
  have hr := B.returns
  have hts := atoms_spec (ws := wsX3_isOn) B.pre
  have hown : s.vm.findClass RX3 = some m.cls := findClass_of_methodNamed B.named
  have hlocks := B.notSynchronized
  subst hsz
  have hD := hD0.self (sz := s.heap.size)
  generalize hAe : va_A (pM cZ cI b t0 0 g0 (fun _ => false)) s.heap.size = A at hD ⊢
  have hA : ∀ q : Nat, s.heap.size ≤ q → A q := fun q h => by rw [← hAe]; exact Or.inr h
  have hS : va_S A s.heap s.heap [] := va_S.rf
  have hP : va_P D vwCl (pM cZ cI b t0 0 g0 (fun _ => false)) s.heap := hP
  have hl := lv_entry ([.ref (b 0)]) (n := 1) (Nat.le_of_ble_eq_true rfl)
  rw [lg_entry_eq]
  generalize (lg_sl ([.ref (b 0)]) ++ List.replicate (1 - (lg_sl ([.ref (b 0)])).length) Slot.unset).toArray = ls at hl ⊢
  have hl : lv_has ls 1 [(0, .ref (b 0))] := hl
  have hin3 : ∀ w ∈ u_ws RX3 TX3 20, w ∈ wsX3_isOn := by decide +kernel
  have hf85 := hts (.fieldLink RX3 85 "DoorChaseModel" "isOn" "Z") (by decide +kernel)
  refine lv_aload_n hx hb dX3_isOn_0 rfl (lv_at hl 0 rfl) ?_
  refine lv_aload_n hx hb dX3_isOn_1 rfl (lv_at hl 0 rfl) ?_
  refine va_get (D := D) (ci := 3) (v := .int (bI false)) (C := RX3) (T := TX3) (N := 20) hx hb hts hin3 hown hZ.1 hP 0 rfl rfl 11 (by decide) hf85 (fun _ h9 => h9) rfl dX3_isOn_2 ?_
  have hFc := va_free (wc := pM cZ cI b t0 0 g0 (fun _ => false)) hD hS hA [0, 1, 2, 3, 4, 5, 6, 7, 8] rfl
  refine va_calli (va_runV (As := [.int (bI false)]) (rest := []) ⟨hx, hb, hml, hown, hts⟩ (c_X3_plain_ l D cZ cI b t0 g0 s.heap.size false ) (cwV 1 hts gX3_isOn_X3_plain_ rfl rfl rfl (by decide +kernel) ⟨Nat.le_of_ble_eq_true rfl, Nat.le_of_ble_eq_true rfl⟩) ⟨WrP_blind, va_recv hZ.1 hP (ci := 3) (q0 := 0) rfl rfl, WrP_start hP hD hZ⟩ rfl rfl hl.1 rfl (lv_room (Nat.le_of_ble_eq_true rfl)) dX3_isOn_5 ⟨Nat.le_of_ble_eq_true rfl, Nat.le_of_ble_eq_true rfl⟩) hS (fun q _ h => hFc q h) hFc (fun r9 u t H1 locs ht hvm hw hB hz1 hk1 hS => ?_)
  obtain ⟨hP, hD⟩ := hB
  rw [ht] at hP
  replace hD := hD.weaken (fun _ _ _ h => hFc _ h)
  generalize H1 = H at hP hS ⊢
  have hP : va_P D vwCl (pM cZ cI b 0 0 g0 (fun _ => false)) H := hP
  have hD : va_D A (pM cZ cI b 0 0 g0 (fun _ => false)) := hD
  subst hw
  refine rv_top (show _ = bI false from rfl) ?_
  have hP9 : va_P D vwCl (pM cZ cI b 0 0 g0 (fun _ => false)) H := by exact hP
  have hD9 : va_D A (pM cZ cI b 0 0 g0 (fun _ => false)) := by exact hD
  exact W.zret (v := bI false) hx hb hr (nr_bI _) (fun t ht hW => ⟨⟨_, (), rfl, rfl, by rw [ht]; exact hP9, hD9⟩, hS.F ht⟩) hS.2.2 dX3_isOn_8

set_option maxHeartbeats 4000000 in
set_option maxRecDepth 100000 in
theorem c_X3_isCaught (l : Launch) (D : va_G) (cZ cI : ClassId) (b : Nat → Nat) (t0 : Nat) (g0 : Option Nat) (sz : Nat)   : Met l yX3_isCaught wsX3_isCaught ({ frames := 1, cells := 0, slots := 0, locals := 21 }) (WrP D cZ cI [.ref (b 0)] (pM cZ cI b t0 0 g0 (fun _ => false)) sz) (WrI D (pM cZ cI b 0 0 g0 (fun _ => false)) (va_A (pM cZ cI b t0 0 g0 (fun _ => false)) sz) (bI false)) 0 0 (va_A (pM cZ cI b t0 0 g0 (fun _ => false)) sz) := by
  refine Met.ofW (cc := cX3_isCaught) (maxL := 1) (ret := (some .boolean)) (by decide) rfl ?_
  intro p e s m args below meth c s₁ B hml hv
  obtain ⟨rfl, hsz, hP, hZ, hD0⟩ := hv
  have hx := B.exec
  have hb := B.bytes
  have hr := B.returns
  have hts := atoms_spec (ws := wsX3_isCaught) B.pre
  have hown : s.vm.findClass RX3 = some m.cls := findClass_of_methodNamed B.named
  have hlocks := B.notSynchronized
  subst hsz
  have hD := hD0.self (sz := s.heap.size)
  generalize hAe : va_A (pM cZ cI b t0 0 g0 (fun _ => false)) s.heap.size = A at hD ⊢
  have hA : ∀ q : Nat, s.heap.size ≤ q → A q := fun q h => by rw [← hAe]; exact Or.inr h
  have hS : va_S A s.heap s.heap [] := va_S.rf
  have hP : va_P D vwCl (pM cZ cI b t0 0 g0 (fun _ => false)) s.heap := hP
  have hl := lv_entry ([.ref (b 0)]) (n := 1) (Nat.le_of_ble_eq_true rfl)
  rw [lg_entry_eq]
  generalize (lg_sl ([.ref (b 0)]) ++ List.replicate (1 - (lg_sl ([.ref (b 0)])).length) Slot.unset).toArray = ls at hl ⊢
  have hl : lv_has ls 1 [(0, .ref (b 0))] := hl
  have hin3 : ∀ w ∈ u_ws RX3 TX3 20, w ∈ wsX3_isCaught := by decide +kernel
  have hf107 := hts (.fieldLink RX3 107 "DoorChaseModel" "isCaught" "Z") (by decide +kernel)
  refine lv_aload_n hx hb dX3_isCaught_0 rfl (lv_at hl 0 rfl) ?_
  refine lv_aload_n hx hb dX3_isCaught_1 rfl (lv_at hl 0 rfl) ?_
  refine va_get (D := D) (ci := 3) (v := .int (bI false)) (C := RX3) (T := TX3) (N := 20) hx hb hts hin3 hown hZ.1 hP 0 rfl rfl 12 (by decide) hf107 (fun _ h9 => h9) rfl dX3_isCaught_2 ?_
  have hFc := va_free (wc := pM cZ cI b t0 0 g0 (fun _ => false)) hD hS hA [0, 1, 2, 3, 4, 5, 6, 7, 8] rfl
  refine va_calli (va_runV (As := [.int (bI false)]) (rest := []) ⟨hx, hb, hml, hown, hts⟩ (c_X3_plain_ l D cZ cI b t0 g0 s.heap.size false ) (cwV 1 hts gX3_isCaught_X3_plain_ rfl rfl rfl (by decide +kernel) ⟨Nat.le_of_ble_eq_true rfl, Nat.le_of_ble_eq_true rfl⟩) ⟨WrP_blind, va_recv hZ.1 hP (ci := 3) (q0 := 0) rfl rfl, WrP_start hP hD hZ⟩ rfl rfl hl.1 rfl (lv_room (Nat.le_of_ble_eq_true rfl)) dX3_isCaught_5 ⟨Nat.le_of_ble_eq_true rfl, Nat.le_of_ble_eq_true rfl⟩) hS (fun q _ h => hFc q h) hFc (fun r9 u t H1 locs ht hvm hw hB hz1 hk1 hS => ?_)
  obtain ⟨hP, hD⟩ := hB
  rw [ht] at hP
  replace hD := hD.weaken (fun _ _ _ h => hFc _ h)
  generalize H1 = H at hP hS ⊢
  have hP : va_P D vwCl (pM cZ cI b 0 0 g0 (fun _ => false)) H := hP
  have hD : va_D A (pM cZ cI b 0 0 g0 (fun _ => false)) := hD
  subst hw
  refine rv_top (show _ = bI false from rfl) ?_
  have hP9 : va_P D vwCl (pM cZ cI b 0 0 g0 (fun _ => false)) H := by exact hP
  have hD9 : va_D A (pM cZ cI b 0 0 g0 (fun _ => false)) := by exact hD
  exact W.zret (v := bI false) hx hb hr (nr_bI _) (fun t ht hW => ⟨⟨_, (), rfl, rfl, by rw [ht]; exact hP9, hD9⟩, hS.F ht⟩) hS.2.2 dX3_isCaught_8

set_option maxHeartbeats 4000000 in
set_option maxRecDepth 100000 in
theorem c_X3_isCatsTurn (l : Launch) (D : va_G) (cZ cI : ClassId) (b : Nat → Nat) (t0 : Nat) (g0 : Option Nat) (sz : Nat)   : Met l yX3_isCatsTurn wsX3_isCatsTurn ({ frames := 1, cells := 0, slots := 0, locals := 21 }) (WrP D cZ cI [.ref (b 0)] (pM cZ cI b t0 0 g0 (fun _ => false)) sz) (WrI D (pM cZ cI b 0 0 g0 (fun _ => false)) (va_A (pM cZ cI b t0 0 g0 (fun _ => false)) sz) (bI false)) 0 0 (va_A (pM cZ cI b t0 0 g0 (fun _ => false)) sz) := by
  refine Met.ofW (cc := cX3_isCatsTurn) (maxL := 1) (ret := (some .boolean)) (by decide) rfl ?_
  intro p e s m args below meth c s₁ B hml hv
  obtain ⟨rfl, hsz, hP, hZ, hD0⟩ := hv
  have hx := B.exec
  have hb := B.bytes
  have hr := B.returns
  have hts := atoms_spec (ws := wsX3_isCatsTurn) B.pre
  have hown : s.vm.findClass RX3 = some m.cls := findClass_of_methodNamed B.named
  have hlocks := B.notSynchronized
  subst hsz
  have hD := hD0.self (sz := s.heap.size)
  generalize hAe : va_A (pM cZ cI b t0 0 g0 (fun _ => false)) s.heap.size = A at hD ⊢
  have hA : ∀ q : Nat, s.heap.size ≤ q → A q := fun q h => by rw [← hAe]; exact Or.inr h
  have hS : va_S A s.heap s.heap [] := va_S.rf
  have hP : va_P D vwCl (pM cZ cI b t0 0 g0 (fun _ => false)) s.heap := hP
  have hl := lv_entry ([.ref (b 0)]) (n := 1) (Nat.le_of_ble_eq_true rfl)
  rw [lg_entry_eq]
  generalize (lg_sl ([.ref (b 0)]) ++ List.replicate (1 - (lg_sl ([.ref (b 0)])).length) Slot.unset).toArray = ls at hl ⊢
  have hl : lv_has ls 1 [(0, .ref (b 0))] := hl
  have hin3 : ∀ w ∈ u_ws RX3 TX3 20, w ∈ wsX3_isCatsTurn := by decide +kernel
  have hf92 := hts (.fieldLink RX3 92 "DoorChaseModel" "turn" "I") (by decide +kernel)
  refine lv_aload_n hx hb dX3_isCatsTurn_0 rfl (lv_at hl 0 rfl) ?_
  refine lv_aload_n hx hb dX3_isCatsTurn_1 rfl (lv_at hl 0 rfl) ?_
  refine va_get (D := D) (ci := 3) (v := .int (nI 0)) (C := RX3) (T := TX3) (N := 20) hx hb hts hin3 hown hZ.1 hP 0 rfl rfl 10 (by decide) hf92 (fun _ h9 => h9) rfl dX3_isCatsTurn_2 ?_
  refine lv_iconst (v := nI 2) hx hb dX3_isCatsTurn_5 (by decide) ?_
  refine rv_rem hx hb (by omega) (by omega) (by omega) dX3_isCatsTurn_6 ?_
  refine lv_iconst (v := nI 1) hx hb dX3_isCatsTurn_7 (by decide) ?_
  refine rv_ne (tgt := 15) hx hb (by omega) (by omega) dX3_isCatsTurn_8 (by decide) (fun c8_1 => ?_) (fun c8_1 => ?_)
  · skip
    refine lv_iconst (v := nI 0) hx hb dX3_isCatsTurn_15 (by decide) ?_
    refine rv_top (show nI 0 = bI false from rfl) ?_
    have hFc := va_free (wc := pM cZ cI b t0 0 g0 (fun _ => false)) hD hS hA [0, 1, 2, 3, 4, 5, 6, 7, 8] rfl
    refine va_calli (va_runV (As := [.int (bI false)]) (rest := []) ⟨hx, hb, hml, hown, hts⟩ (c_X3_plain_ l D cZ cI b t0 g0 s.heap.size false ) (cwV 1 hts gX3_isCatsTurn_X3_plain_ rfl rfl rfl (by decide +kernel) ⟨Nat.le_of_ble_eq_true rfl, Nat.le_of_ble_eq_true rfl⟩) ⟨WrP_blind, va_recv hZ.1 hP (ci := 3) (q0 := 0) rfl rfl, WrP_start hP hD hZ⟩ rfl rfl hl.1 rfl (lv_room (Nat.le_of_ble_eq_true rfl)) dX3_isCatsTurn_16 ⟨Nat.le_of_ble_eq_true rfl, Nat.le_of_ble_eq_true rfl⟩) hS (fun q _ h => hFc q h) hFc (fun r9 u t H1 locs ht hvm hw hB hz1 hk1 hS => ?_)
    obtain ⟨hP, hD⟩ := hB
    rw [ht] at hP
    replace hD := hD.weaken (fun _ _ _ h => hFc _ h)
    generalize H1 = H at hP hS ⊢
    have hP : va_P D vwCl (pM cZ cI b 0 0 g0 (fun _ => false)) H := hP
    have hD : va_D A (pM cZ cI b 0 0 g0 (fun _ => false)) := hD
    subst hw
    refine rv_top (show _ = bI false from rfl) ?_
    have hP9 : va_P D vwCl (pM cZ cI b 0 0 g0 (fun _ => false)) H := by exact hP
    have hD9 : va_D A (pM cZ cI b 0 0 g0 (fun _ => false)) := by exact hD
    exact W.zret (v := bI false) hx hb hr (nr_bI _) (fun t ht hW => ⟨⟨_, (), rfl, rfl, by rw [ht]; exact hP9, hD9⟩, hS.F ht⟩) hS.2.2 dX3_isCatsTurn_19
  · skip
    exact absurd c8_1 (by decide)

set_option maxHeartbeats 4000000 in
set_option maxRecDepth 100000 in
theorem c_X3_toCatch (l : Launch) (D : va_G) (cZ cI : ClassId) (b : Nat → Nat) (t0 : Nat) (g0 : Option Nat)    : Met l yX3_toCatch wsX3_toCatch ({ frames := 1, cells := 0, slots := 0, locals := 26 }) (RdP D cZ cI [.ref (b 0)] (pM cZ cI b t0 0 g0 (fun _ => false))) (vp_Si (fun r0 => r0 = (-1))) 0 0 (fun _ => False) := by
  refine Met.ofW (cc := cX3_toCatch) (maxL := 1) (ret := (some .int)) (by decide) rfl ?_
  intro p e s m args below meth c s₁ B hml hv
  obtain ⟨rfl, hP, hZ⟩ := hv
  have hx := B.exec
  have hb := B.bytes
  have hr := B.returns
  have hts := atoms_spec (ws := wsX3_toCatch) B.pre
  have hown : s.vm.findClass RX3 = some m.cls := findClass_of_methodNamed B.named
  have hlocks := B.notSynchronized
  have hP : va_P D vwCl (pM cZ cI b t0 0 g0 (fun _ => false)) s.heap := hP
  have hl := lv_entry ([.ref (b 0)]) (n := 1) (Nat.le_of_ble_eq_true rfl)
  rw [lg_entry_eq]
  generalize (lg_sl ([.ref (b 0)]) ++ List.replicate (1 - (lg_sl ([.ref (b 0)])).length) Slot.unset).toArray = ls at hl ⊢
  have hl : lv_has ls 1 [(0, .ref (b 0))] := hl
  have hin3 : ∀ w ∈ u_ws RX3 TX3 20, w ∈ wsX3_toCatch := by decide +kernel
  have hf32 := hts (.fieldLink RX3 32 "DoorChaseModel" "sure" "[I") (by decide +kernel)
  have hf85 := hts (.fieldLink RX3 85 "DoorChaseModel" "isOn" "Z") (by decide +kernel)
  have hf92 := hts (.fieldLink RX3 92 "DoorChaseModel" "turn" "I") (by decide +kernel)
  have hf95 := hts (.fieldLink RX3 95 "DoorChaseModel" "cat" "I") (by decide +kernel)
  have hf98 := hts (.fieldLink RX3 98 "DoorChaseModel" "mouse" "I") (by decide +kernel)
  refine lv_aload_n hx hb dX3_toCatch_0 rfl (lv_at hl 0 rfl) ?_
  refine va_get (D := D) (ci := 3) (v := .int (bI false)) (C := RX3) (T := TX3) (N := 20) hx hb hts hin3 hown hZ.1 hP 0 rfl rfl 11 (by decide) hf85 (fun _ h9 => h9) rfl dX3_toCatch_1 ?_
  refine rv_ifneB (tgt := 9) hx hb dX3_toCatch_4 (by decide) (fun c4_1 => ?_) (fun c4_1 => ?_)
  · skip
    exact Bool.noConfusion c4_1
  · skip
    refine lv_iconst (v := (-1)) hx hb dX3_toCatch_7 (by decide) ?_
    exact W.iret (v := (-1)) hx hb hr (fun t ht hW => ⟨_, rfl, rfl, ht⟩) (fun q h => absurd h List.not_mem_nil) dX3_toCatch_8

set_option maxHeartbeats 4000000 in
set_option maxRecDepth 100000 in
theorem c_X3_best (l : Launch) (D : va_G) (cZ cI : ClassId) (b : Nat → Nat) (t0 : Nat) (g0 : Option Nat)    : Met l yX3_best wsX3_best ({ frames := 1, cells := 0, slots := 0, locals := 26 }) (RdP D cZ cI [.ref (b 0)] (pM cZ cI b t0 0 g0 (fun _ => false))) (vp_Si (fun r0 => r0 = (-1))) 0 0 (fun _ => False) := by
  refine Met.ofW (cc := cX3_best) (maxL := 7) (ret := (some .int)) (by decide) rfl ?_
  intro p e s m args below meth c s₁ B hml hv
  obtain ⟨rfl, hP, hZ⟩ := hv
  have hx := B.exec
  have hb := B.bytes
  have hr := B.returns
  have hts := atoms_spec (ws := wsX3_best) B.pre
  have hown : s.vm.findClass RX3 = some m.cls := findClass_of_methodNamed B.named
  have hlocks := B.notSynchronized
  have hP : va_P D vwCl (pM cZ cI b t0 0 g0 (fun _ => false)) s.heap := hP
  have hl := lv_entry ([.ref (b 0)]) (n := 7) (Nat.le_of_ble_eq_true rfl)
  rw [lg_entry_eq]
  generalize (lg_sl ([.ref (b 0)]) ++ List.replicate (7 - (lg_sl ([.ref (b 0)])).length) Slot.unset).toArray = ls at hl ⊢
  have hl : lv_has ls 7 [(0, .ref (b 0))] := hl
  have hin3 : ∀ w ∈ u_ws RX3 TX3 20, w ∈ wsX3_best := by decide +kernel
  have hf9 := hts (.fieldLink RX3 9 "DoorChaseModel" "safe" "[Z") (by decide +kernel)
  have hf32 := hts (.fieldLink RX3 32 "DoorChaseModel" "sure" "[I") (by decide +kernel)
  have hf43 := hts (.fieldLink RX3 43 "DoorChaseModel" "rooms" "I") (by decide +kernel)
  have hf85 := hts (.fieldLink RX3 85 "DoorChaseModel" "isOn" "Z") (by decide +kernel)
  have hf92 := hts (.fieldLink RX3 92 "DoorChaseModel" "turn" "I") (by decide +kernel)
  have hf95 := hts (.fieldLink RX3 95 "DoorChaseModel" "cat" "I") (by decide +kernel)
  have hf98 := hts (.fieldLink RX3 98 "DoorChaseModel" "mouse" "I") (by decide +kernel)
  refine lv_aload_n hx hb dX3_best_0 rfl (lv_at hl 0 rfl) ?_
  refine va_get (D := D) (ci := 3) (v := .int (bI false)) (C := RX3) (T := TX3) (N := 20) hx hb hts hin3 hown hZ.1 hP 0 rfl rfl 11 (by decide) hf85 (fun _ h9 => h9) rfl dX3_best_1 ?_
  refine rv_ifneB (tgt := 9) hx hb dX3_best_4 (by decide) (fun c4_1 => ?_) (fun c4_1 => ?_)
  · skip
    exact Bool.noConfusion c4_1
  · skip
    refine lv_iconst (v := (-1)) hx hb dX3_best_7 (by decide) ?_
    exact W.iret (v := (-1)) hx hb hr (fun t ht hW => ⟨_, rfl, rfl, ht⟩) (fun q h => absurd h List.not_mem_nil) dX3_best_8

set_option maxHeartbeats 4000000 in
set_option maxRecDepth 100000 in
theorem c_X3_doorToLock (l : Launch) (D : va_G) (cZ cI : ClassId) (b : Nat → Nat) (t0 : Nat) (g0 : Option Nat)    : Met l yX3_doorToLock wsX3_doorToLock ({ frames := 2, cells := 0, slots := 0, locals := 46 }) (RdP D cZ cI [.ref (b 0)] (pM cZ cI b t0 0 g0 (fun _ => false))) (vp_Si (fun r0 => r0 = (-1))) 0 0 (fun _ => False) := by
  refine Met.ofW (cc := cX3_doorToLock) (maxL := 5) (ret := (some .int)) (by decide) rfl ?_
  intro p e s m args below meth c s₁ B hml hv
  obtain ⟨rfl, hP, hZ⟩ := hv
  have hx := B.exec
  have hb := B.bytes
  have hr := B.returns
  have hts := atoms_spec (ws := wsX3_doorToLock) B.pre
  have hown : s.vm.findClass RX3 = some m.cls := findClass_of_methodNamed B.named
  have hlocks := B.notSynchronized
  have hP : va_P D vwCl (pM cZ cI b t0 0 g0 (fun _ => false)) s.heap := hP
  have hl := lv_entry ([.ref (b 0)]) (n := 5) (Nat.le_of_ble_eq_true rfl)
  rw [lg_entry_eq]
  generalize (lg_sl ([.ref (b 0)]) ++ List.replicate (5 - (lg_sl ([.ref (b 0)])).length) Slot.unset).toArray = ls at hl ⊢
  have hl : lv_has ls 5 [(0, .ref (b 0))] := hl
  have hin3 : ∀ w ∈ u_ws RX3 TX3 20, w ∈ wsX3_doorToLock := by decide +kernel
  have hf29 := hts (.fieldLink RX3 29 "DoorChaseModel" "locked" "[Z") (by decide +kernel)
  have hf57 := hts (.fieldLink RX3 57 "DoorChaseModel" "doors" "I") (by decide +kernel)
  have hf85 := hts (.fieldLink RX3 85 "DoorChaseModel" "isOn" "Z") (by decide +kernel)
  refine lv_aload_n hx hb dX3_doorToLock_0 rfl (lv_at hl 0 rfl) ?_
  refine va_get (D := D) (ci := 3) (v := .int (bI false)) (C := RX3) (T := TX3) (N := 20) hx hb hts hin3 hown hZ.1 hP 0 rfl rfl 11 (by decide) hf85 (fun _ h9 => h9) rfl dX3_doorToLock_1 ?_
  refine rv_ifneB (tgt := 9) hx hb dX3_doorToLock_4 (by decide) (fun c4_1 => ?_) (fun c4_1 => ?_)
  · skip
    exact Bool.noConfusion c4_1
  · skip
    refine lv_iconst (v := (-1)) hx hb dX3_doorToLock_7 (by decide) ?_
    exact W.iret (v := (-1)) hx hb hr (fun t ht hW => ⟨_, rfl, rfl, ht⟩) (fun q h => absurd h List.not_mem_nil) dX3_doorToLock_8

set_option maxHeartbeats 4000000 in
set_option maxRecDepth 100000 in
theorem c_X3_safeRooms (l : Launch) (D : va_G) (cZ cI : ClassId) (b : Nat → Nat) (t0 : Nat) (g0 : Option Nat)    : Met l yX3_safeRooms wsX3_safeRooms ({ frames := 1, cells := 0, slots := 0, locals := 26 }) (RdP D cZ cI [.ref (b 0)] (pM cZ cI b t0 0 g0 (fun _ => false))) (vp_Si (fun r0 => r0 = nI 0)) 0 0 (fun _ => False) := by
  refine Met.ofW (cc := cX3_safeRooms) (maxL := 3) (ret := (some .int)) (by decide) rfl ?_
  intro p e s m args below meth c s₁ B hml hv
  obtain ⟨rfl, hP, hZ⟩ := hv
  have hx := B.exec
  have hb := B.bytes
  have hr := B.returns
  have hts := atoms_spec (ws := wsX3_safeRooms) B.pre
  have hown : s.vm.findClass RX3 = some m.cls := findClass_of_methodNamed B.named
  have hlocks := B.notSynchronized
  have hP : va_P D vwCl (pM cZ cI b t0 0 g0 (fun _ => false)) s.heap := hP
  have hl := lv_entry ([.ref (b 0)]) (n := 3) (Nat.le_of_ble_eq_true rfl)
  rw [lg_entry_eq]
  generalize (lg_sl ([.ref (b 0)]) ++ List.replicate (3 - (lg_sl ([.ref (b 0)])).length) Slot.unset).toArray = ls at hl ⊢
  have hl : lv_has ls 3 [(0, .ref (b 0))] := hl
  have hin3 : ∀ w ∈ u_ws RX3 TX3 20, w ∈ wsX3_safeRooms := by decide +kernel
  have hf32 := hts (.fieldLink RX3 32 "DoorChaseModel" "sure" "[I") (by decide +kernel)
  have hf43 := hts (.fieldLink RX3 43 "DoorChaseModel" "rooms" "I") (by decide +kernel)
  have hf85 := hts (.fieldLink RX3 85 "DoorChaseModel" "isOn" "Z") (by decide +kernel)
  have hf92 := hts (.fieldLink RX3 92 "DoorChaseModel" "turn" "I") (by decide +kernel)
  have hf95 := hts (.fieldLink RX3 95 "DoorChaseModel" "cat" "I") (by decide +kernel)
  refine lv_aload_n hx hb dX3_safeRooms_0 rfl (lv_at hl 0 rfl) ?_
  refine va_get (D := D) (ci := 3) (v := .int (bI false)) (C := RX3) (T := TX3) (N := 20) hx hb hts hin3 hown hZ.1 hP 0 rfl rfl 11 (by decide) hf85 (fun _ h9 => h9) rfl dX3_safeRooms_1 ?_
  refine rv_ifneB (tgt := 9) hx hb dX3_safeRooms_4 (by decide) (fun c4_1 => ?_) (fun c4_1 => ?_)
  · skip
    exact Bool.noConfusion c4_1
  · skip
    refine lv_iconst (v := nI 0) hx hb dX3_safeRooms_7 (by decide) ?_
    exact W.iret (v := nI 0) hx hb hr (fun t ht hW => ⟨_, rfl, rfl, ht⟩) (fun q h => absurd h List.not_mem_nil) dX3_safeRooms_8

set_option maxHeartbeats 4000000 in
set_option maxRecDepth 100000 in
theorem c_X3_turnsToCatch (l : Launch) (D : va_G) (cZ cI : ClassId) (b : Nat → Nat) (t0 : Nat) (g0 : Option Nat) (sz : Nat)   : Met l yX3_turnsToCatch wsX3_turnsToCatch ({ frames := 2, cells := 0, slots := 0, locals := 46 }) (WrP D cZ cI [.ref (b 0)] (pM cZ cI b t0 0 g0 (fun _ => false)) sz) (WrI D (pM cZ cI b 0 0 g0 (fun _ => false)) (va_A (pM cZ cI b t0 0 g0 (fun _ => false)) sz) ((-1))) 0 0 (va_A (pM cZ cI b t0 0 g0 (fun _ => false)) sz) := by
  refine Met.ofW (cc := cX3_turnsToCatch) (maxL := 1) (ret := (some .int)) (by decide) rfl ?_
  intro p e s m args below meth c s₁ B hml hv
  obtain ⟨rfl, hsz, hP, hZ, hD0⟩ := hv
  have hx := B.exec
  have hb := B.bytes
  have hr := B.returns
  have hts := atoms_spec (ws := wsX3_turnsToCatch) B.pre
  have hown : s.vm.findClass RX3 = some m.cls := findClass_of_methodNamed B.named
  have hlocks := B.notSynchronized
  subst hsz
  have hD := hD0.self (sz := s.heap.size)
  generalize hAe : va_A (pM cZ cI b t0 0 g0 (fun _ => false)) s.heap.size = A at hD ⊢
  have hA : ∀ q : Nat, s.heap.size ≤ q → A q := fun q h => by rw [← hAe]; exact Or.inr h
  have hS : va_S A s.heap s.heap [] := va_S.rf
  have hP : va_P D vwCl (pM cZ cI b t0 0 g0 (fun _ => false)) s.heap := hP
  have hl := lv_entry ([.ref (b 0)]) (n := 1) (Nat.le_of_ble_eq_true rfl)
  rw [lg_entry_eq]
  generalize (lg_sl ([.ref (b 0)]) ++ List.replicate (1 - (lg_sl ([.ref (b 0)])).length) Slot.unset).toArray = ls at hl ⊢
  have hl : lv_has ls 1 [(0, .ref (b 0))] := hl
  refine lv_aload_n hx hb dX3_turnsToCatch_0 rfl (lv_at hl 0 rfl) ?_
  refine lv_aload_n hx hb dX3_turnsToCatch_1 rfl (lv_at hl 0 rfl) ?_
  refine vp_callSi (va_runV (As := []) (rest := [.ref (b 0)]) ⟨hx, hb, hml, hown, hts⟩ (c_X3_toCatch l D cZ cI b t0 g0   ) (cwV 0 hts gX3_turnsToCatch_X3_toCatch rfl rfl rfl (by decide +kernel) ⟨Nat.le_of_ble_eq_true rfl, Nat.le_of_ble_eq_true rfl⟩) ⟨RdP_blind, va_recv hZ.1 hP (ci := 3) (q0 := 0) rfl rfl, RdP_start (hP.sub (ws' := pM cZ cI b t0 0 g0 (fun _ => false)) [0, 1, 2, 3, 4, 5, 6, 7, 8] rfl) hZ⟩ rfl rfl hl.1 rfl (lv_room (Nat.le_of_ble_eq_true rfl)) dX3_turnsToCatch_2 ⟨Nat.le_of_ble_eq_true rfl, Nat.le_of_ble_eq_true rfl⟩).run (fun r_1 hr_2 => ?_)
  subst hr_2
  refine rv_top (show _ = (-1) from rfl) ?_
  have hFc := va_free (wc := pM cZ cI b t0 0 g0 (fun _ => false)) hD hS hA [0, 1, 2, 3, 4, 5, 6, 7, 8] rfl
  refine va_calli (va_runV (As := [.int ((-1))]) (rest := []) ⟨hx, hb, hml, hown, hts⟩ (c_X3_plain l D cZ cI b t0 g0 s.heap.size (-1) ) (cwV 1 hts gX3_turnsToCatch_X3_plain rfl rfl rfl (by decide +kernel) ⟨Nat.le_of_ble_eq_true rfl, Nat.le_of_ble_eq_true rfl⟩) ⟨WrP_blind, va_recv hZ.1 hP (ci := 3) (q0 := 0) rfl rfl, WrP_start hP hD hZ⟩ rfl rfl hl.1 rfl (lv_room (Nat.le_of_ble_eq_true rfl)) dX3_turnsToCatch_5 ⟨Nat.le_of_ble_eq_true rfl, Nat.le_of_ble_eq_true rfl⟩) hS (fun q _ h => hFc q h) hFc (fun r9 u t H1 locs ht hvm hw hB hz1 hk1 hS => ?_)
  obtain ⟨hP, hD⟩ := hB
  rw [ht] at hP
  replace hD := hD.weaken (fun _ _ _ h => hFc _ h)
  generalize H1 = H at hP hS ⊢
  have hP : va_P D vwCl (pM cZ cI b 0 0 g0 (fun _ => false)) H := hP
  have hD : va_D A (pM cZ cI b 0 0 g0 (fun _ => false)) := hD
  subst hw
  refine rv_top (show _ = (-1) from rfl) ?_
  have hP9 : va_P D vwCl (pM cZ cI b 0 0 g0 (fun _ => false)) H := by exact hP
  have hD9 : va_D A (pM cZ cI b 0 0 g0 (fun _ => false)) := by exact hD
  exact W.iret (v := (-1)) hx hb hr (fun t ht hW => ⟨⟨_, (), rfl, rfl, by rw [ht]; exact hP9, hD9⟩, hS.F ht⟩) hS.2.2 dX3_turnsToCatch_8

set_option maxHeartbeats 4000000 in
set_option maxRecDepth 100000 in
theorem c_X3_bestGo (l : Launch) (D : va_G) (cZ cI : ClassId) (b : Nat → Nat) (t0 : Nat) (g0 : Option Nat) (sz : Nat)   : Met l yX3_bestGo wsX3_bestGo ({ frames := 2, cells := 0, slots := 0, locals := 52 }) (WrP D cZ cI [.ref (b 0)] (pM cZ cI b t0 0 g0 (fun _ => false)) sz) (WrI D (pM cZ cI b 0 0 g0 (fun _ => false)) (va_A (pM cZ cI b t0 0 g0 (fun _ => false)) sz) ((-1))) 0 0 (va_A (pM cZ cI b t0 0 g0 (fun _ => false)) sz) := by
  refine Met.ofW (cc := cX3_bestGo) (maxL := 1) (ret := (some .int)) (by decide) rfl ?_
  intro p e s m args below meth c s₁ B hml hv
  obtain ⟨rfl, hsz, hP, hZ, hD0⟩ := hv
  have hx := B.exec
  have hb := B.bytes
  have hr := B.returns
  have hts := atoms_spec (ws := wsX3_bestGo) B.pre
  have hown : s.vm.findClass RX3 = some m.cls := findClass_of_methodNamed B.named
  have hlocks := B.notSynchronized
  subst hsz
  have hD := hD0.self (sz := s.heap.size)
  generalize hAe : va_A (pM cZ cI b t0 0 g0 (fun _ => false)) s.heap.size = A at hD ⊢
  have hA : ∀ q : Nat, s.heap.size ≤ q → A q := fun q h => by rw [← hAe]; exact Or.inr h
  have hS : va_S A s.heap s.heap [] := va_S.rf
  have hP : va_P D vwCl (pM cZ cI b t0 0 g0 (fun _ => false)) s.heap := hP
  have hl := lv_entry ([.ref (b 0)]) (n := 1) (Nat.le_of_ble_eq_true rfl)
  rw [lg_entry_eq]
  generalize (lg_sl ([.ref (b 0)]) ++ List.replicate (1 - (lg_sl ([.ref (b 0)])).length) Slot.unset).toArray = ls at hl ⊢
  have hl : lv_has ls 1 [(0, .ref (b 0))] := hl
  refine lv_aload_n hx hb dX3_bestGo_0 rfl (lv_at hl 0 rfl) ?_
  refine lv_aload_n hx hb dX3_bestGo_1 rfl (lv_at hl 0 rfl) ?_
  refine vp_callSi (va_runV (As := []) (rest := [.ref (b 0)]) ⟨hx, hb, hml, hown, hts⟩ (c_X3_best l D cZ cI b t0 g0   ) (cwV 0 hts gX3_bestGo_X3_best rfl rfl rfl (by decide +kernel) ⟨Nat.le_of_ble_eq_true rfl, Nat.le_of_ble_eq_true rfl⟩) ⟨RdP_blind, va_recv hZ.1 hP (ci := 3) (q0 := 0) rfl rfl, RdP_start (hP.sub (ws' := pM cZ cI b t0 0 g0 (fun _ => false)) [0, 1, 2, 3, 4, 5, 6, 7, 8] rfl) hZ⟩ rfl rfl hl.1 rfl (lv_room (Nat.le_of_ble_eq_true rfl)) dX3_bestGo_2 ⟨Nat.le_of_ble_eq_true rfl, Nat.le_of_ble_eq_true rfl⟩).run (fun r_1 hr_2 => ?_)
  subst hr_2
  refine rv_top (show _ = (-1) from rfl) ?_
  have hFc := va_free (wc := pM cZ cI b t0 0 g0 (fun _ => false)) hD hS hA [0, 1, 2, 3, 4, 5, 6, 7, 8] rfl
  refine va_calli (va_runV (As := [.int ((-1))]) (rest := []) ⟨hx, hb, hml, hown, hts⟩ (c_X3_plain l D cZ cI b t0 g0 s.heap.size (-1) ) (cwV 1 hts gX3_bestGo_X3_plain rfl rfl rfl (by decide +kernel) ⟨Nat.le_of_ble_eq_true rfl, Nat.le_of_ble_eq_true rfl⟩) ⟨WrP_blind, va_recv hZ.1 hP (ci := 3) (q0 := 0) rfl rfl, WrP_start hP hD hZ⟩ rfl rfl hl.1 rfl (lv_room (Nat.le_of_ble_eq_true rfl)) dX3_bestGo_5 ⟨Nat.le_of_ble_eq_true rfl, Nat.le_of_ble_eq_true rfl⟩) hS (fun q _ h => hFc q h) hFc (fun r9 u t H1 locs ht hvm hw hB hz1 hk1 hS => ?_)
  obtain ⟨hP, hD⟩ := hB
  rw [ht] at hP
  replace hD := hD.weaken (fun _ _ _ h => hFc _ h)
  generalize H1 = H at hP hS ⊢
  have hP : va_P D vwCl (pM cZ cI b 0 0 g0 (fun _ => false)) H := hP
  have hD : va_D A (pM cZ cI b 0 0 g0 (fun _ => false)) := hD
  subst hw
  refine rv_top (show _ = (-1) from rfl) ?_
  have hP9 : va_P D vwCl (pM cZ cI b 0 0 g0 (fun _ => false)) H := by exact hP
  have hD9 : va_D A (pM cZ cI b 0 0 g0 (fun _ => false)) := by exact hD
  exact W.iret (v := (-1)) hx hb hr (fun t ht hW => ⟨⟨_, (), rfl, rfl, by rw [ht]; exact hP9, hD9⟩, hS.F ht⟩) hS.2.2 dX3_bestGo_8

set_option maxHeartbeats 4000000 in
set_option maxRecDepth 100000 in
theorem c_X3_bestDoorToLock (l : Launch) (D : va_G) (cZ cI : ClassId) (b : Nat → Nat) (t0 : Nat) (g0 : Option Nat) (sz : Nat)   : Met l yX3_bestDoorToLock wsX3_bestDoorToLock ({ frames := 3, cells := 0, slots := 0, locals := 70 }) (WrP D cZ cI [.ref (b 0)] (pM cZ cI b t0 0 g0 (fun _ => false)) sz) (WrI D (pM cZ cI b 0 0 g0 (fun _ => false)) (va_A (pM cZ cI b t0 0 g0 (fun _ => false)) sz) ((-1))) 0 0 (va_A (pM cZ cI b t0 0 g0 (fun _ => false)) sz) := by
  refine Met.ofW (cc := cX3_bestDoorToLock) (maxL := 1) (ret := (some .int)) (by decide) rfl ?_
  intro p e s m args below meth c s₁ B hml hv
  obtain ⟨rfl, hsz, hP, hZ, hD0⟩ := hv
  have hx := B.exec
  have hb := B.bytes
  have hr := B.returns
  have hts := atoms_spec (ws := wsX3_bestDoorToLock) B.pre
  have hown : s.vm.findClass RX3 = some m.cls := findClass_of_methodNamed B.named
  have hlocks := B.notSynchronized
  subst hsz
  have hD := hD0.self (sz := s.heap.size)
  generalize hAe : va_A (pM cZ cI b t0 0 g0 (fun _ => false)) s.heap.size = A at hD ⊢
  have hA : ∀ q : Nat, s.heap.size ≤ q → A q := fun q h => by rw [← hAe]; exact Or.inr h
  have hS : va_S A s.heap s.heap [] := va_S.rf
  have hP : va_P D vwCl (pM cZ cI b t0 0 g0 (fun _ => false)) s.heap := hP
  have hl := lv_entry ([.ref (b 0)]) (n := 1) (Nat.le_of_ble_eq_true rfl)
  rw [lg_entry_eq]
  generalize (lg_sl ([.ref (b 0)]) ++ List.replicate (1 - (lg_sl ([.ref (b 0)])).length) Slot.unset).toArray = ls at hl ⊢
  have hl : lv_has ls 1 [(0, .ref (b 0))] := hl
  refine lv_aload_n hx hb dX3_bestDoorToLock_0 rfl (lv_at hl 0 rfl) ?_
  refine lv_aload_n hx hb dX3_bestDoorToLock_1 rfl (lv_at hl 0 rfl) ?_
  refine vp_callSi (va_runV (As := []) (rest := [.ref (b 0)]) ⟨hx, hb, hml, hown, hts⟩ (c_X3_doorToLock l D cZ cI b t0 g0   ) (cwV 0 hts gX3_bestDoorToLock_X3_doorToLock rfl rfl rfl (by decide +kernel) ⟨Nat.le_of_ble_eq_true rfl, Nat.le_of_ble_eq_true rfl⟩) ⟨RdP_blind, va_recv hZ.1 hP (ci := 3) (q0 := 0) rfl rfl, RdP_start (hP.sub (ws' := pM cZ cI b t0 0 g0 (fun _ => false)) [0, 1, 2, 3, 4, 5, 6, 7, 8] rfl) hZ⟩ rfl rfl hl.1 rfl (lv_room (Nat.le_of_ble_eq_true rfl)) dX3_bestDoorToLock_2 ⟨Nat.le_of_ble_eq_true rfl, Nat.le_of_ble_eq_true rfl⟩).run (fun r_1 hr_2 => ?_)
  subst hr_2
  refine rv_top (show _ = (-1) from rfl) ?_
  have hFc := va_free (wc := pM cZ cI b t0 0 g0 (fun _ => false)) hD hS hA [0, 1, 2, 3, 4, 5, 6, 7, 8] rfl
  refine va_calli (va_runV (As := [.int ((-1))]) (rest := []) ⟨hx, hb, hml, hown, hts⟩ (c_X3_plain l D cZ cI b t0 g0 s.heap.size (-1) ) (cwV 1 hts gX3_bestDoorToLock_X3_plain rfl rfl rfl (by decide +kernel) ⟨Nat.le_of_ble_eq_true rfl, Nat.le_of_ble_eq_true rfl⟩) ⟨WrP_blind, va_recv hZ.1 hP (ci := 3) (q0 := 0) rfl rfl, WrP_start hP hD hZ⟩ rfl rfl hl.1 rfl (lv_room (Nat.le_of_ble_eq_true rfl)) dX3_bestDoorToLock_5 ⟨Nat.le_of_ble_eq_true rfl, Nat.le_of_ble_eq_true rfl⟩) hS (fun q _ h => hFc q h) hFc (fun r9 u t H1 locs ht hvm hw hB hz1 hk1 hS => ?_)
  obtain ⟨hP, hD⟩ := hB
  rw [ht] at hP
  replace hD := hD.weaken (fun _ _ _ h => hFc _ h)
  generalize H1 = H at hP hS ⊢
  have hP : va_P D vwCl (pM cZ cI b 0 0 g0 (fun _ => false)) H := hP
  have hD : va_D A (pM cZ cI b 0 0 g0 (fun _ => false)) := hD
  subst hw
  refine rv_top (show _ = (-1) from rfl) ?_
  have hP9 : va_P D vwCl (pM cZ cI b 0 0 g0 (fun _ => false)) H := by exact hP
  have hD9 : va_D A (pM cZ cI b 0 0 g0 (fun _ => false)) := by exact hD
  exact W.iret (v := (-1)) hx hb hr (fun t ht hW => ⟨⟨_, (), rfl, rfl, by rw [ht]; exact hP9, hD9⟩, hS.F ht⟩) hS.2.2 dX3_bestDoorToLock_8

set_option maxHeartbeats 4000000 in
set_option maxRecDepth 100000 in
theorem c_X3_safeNow (l : Launch) (D : va_G) (cZ cI : ClassId) (b : Nat → Nat) (t0 : Nat) (g0 : Option Nat) (sz : Nat)   : Met l yX3_safeNow wsX3_safeNow ({ frames := 2, cells := 0, slots := 0, locals := 48 }) (WrP D cZ cI [.ref (b 0)] (pM cZ cI b t0 0 g0 (fun _ => false)) sz) (WrI D (pM cZ cI b 0 0 g0 (fun _ => false)) (va_A (pM cZ cI b t0 0 g0 (fun _ => false)) sz) (nI 0)) 0 0 (va_A (pM cZ cI b t0 0 g0 (fun _ => false)) sz) := by
  refine Met.ofW (cc := cX3_safeNow) (maxL := 1) (ret := (some .int)) (by decide) rfl ?_
  intro p e s m args below meth c s₁ B hml hv
  obtain ⟨rfl, hsz, hP, hZ, hD0⟩ := hv
  have hx := B.exec
  have hb := B.bytes
  have hr := B.returns
  have hts := atoms_spec (ws := wsX3_safeNow) B.pre
  have hown : s.vm.findClass RX3 = some m.cls := findClass_of_methodNamed B.named
  have hlocks := B.notSynchronized
  subst hsz
  have hD := hD0.self (sz := s.heap.size)
  generalize hAe : va_A (pM cZ cI b t0 0 g0 (fun _ => false)) s.heap.size = A at hD ⊢
  have hA : ∀ q : Nat, s.heap.size ≤ q → A q := fun q h => by rw [← hAe]; exact Or.inr h
  have hS : va_S A s.heap s.heap [] := va_S.rf
  have hP : va_P D vwCl (pM cZ cI b t0 0 g0 (fun _ => false)) s.heap := hP
  have hl := lv_entry ([.ref (b 0)]) (n := 1) (Nat.le_of_ble_eq_true rfl)
  rw [lg_entry_eq]
  generalize (lg_sl ([.ref (b 0)]) ++ List.replicate (1 - (lg_sl ([.ref (b 0)])).length) Slot.unset).toArray = ls at hl ⊢
  have hl : lv_has ls 1 [(0, .ref (b 0))] := hl
  refine lv_aload_n hx hb dX3_safeNow_0 rfl (lv_at hl 0 rfl) ?_
  refine lv_aload_n hx hb dX3_safeNow_1 rfl (lv_at hl 0 rfl) ?_
  refine vp_callSi (va_runV (As := []) (rest := [.ref (b 0)]) ⟨hx, hb, hml, hown, hts⟩ (c_X3_safeRooms l D cZ cI b t0 g0   ) (cwV 0 hts gX3_safeNow_X3_safeRooms rfl rfl rfl (by decide +kernel) ⟨Nat.le_of_ble_eq_true rfl, Nat.le_of_ble_eq_true rfl⟩) ⟨RdP_blind, va_recv hZ.1 hP (ci := 3) (q0 := 0) rfl rfl, RdP_start (hP.sub (ws' := pM cZ cI b t0 0 g0 (fun _ => false)) [0, 1, 2, 3, 4, 5, 6, 7, 8] rfl) hZ⟩ rfl rfl hl.1 rfl (lv_room (Nat.le_of_ble_eq_true rfl)) dX3_safeNow_2 ⟨Nat.le_of_ble_eq_true rfl, Nat.le_of_ble_eq_true rfl⟩).run (fun r_1 hr_2 => ?_)
  subst hr_2
  refine rv_top (show _ = nI 0 from rfl) ?_
  have hFc := va_free (wc := pM cZ cI b t0 0 g0 (fun _ => false)) hD hS hA [0, 1, 2, 3, 4, 5, 6, 7, 8] rfl
  refine va_calli (va_runV (As := [.int (nI 0)]) (rest := []) ⟨hx, hb, hml, hown, hts⟩ (c_X3_plain l D cZ cI b t0 g0 s.heap.size (nI 0) ) (cwV 1 hts gX3_safeNow_X3_plain rfl rfl rfl (by decide +kernel) ⟨Nat.le_of_ble_eq_true rfl, Nat.le_of_ble_eq_true rfl⟩) ⟨WrP_blind, va_recv hZ.1 hP (ci := 3) (q0 := 0) rfl rfl, WrP_start hP hD hZ⟩ rfl rfl hl.1 rfl (lv_room (Nat.le_of_ble_eq_true rfl)) dX3_safeNow_5 ⟨Nat.le_of_ble_eq_true rfl, Nat.le_of_ble_eq_true rfl⟩) hS (fun q _ h => hFc q h) hFc (fun r9 u t H1 locs ht hvm hw hB hz1 hk1 hS => ?_)
  obtain ⟨hP, hD⟩ := hB
  rw [ht] at hP
  replace hD := hD.weaken (fun _ _ _ h => hFc _ h)
  generalize H1 = H at hP hS ⊢
  have hP : va_P D vwCl (pM cZ cI b 0 0 g0 (fun _ => false)) H := hP
  have hD : va_D A (pM cZ cI b 0 0 g0 (fun _ => false)) := hD
  subst hw
  refine rv_top (show _ = (nI 0) from rfl) ?_
  have hP9 : va_P D vwCl (pM cZ cI b 0 0 g0 (fun _ => false)) H := by exact hP
  have hD9 : va_D A (pM cZ cI b 0 0 g0 (fun _ => false)) := by exact hD
  exact W.iret (v := (nI 0)) hx hb hr (fun t ht hW => ⟨⟨_, (), rfl, rfl, by rw [ht]; exact hP9, hD9⟩, hS.F ht⟩) hS.2.2 dX3_safeNow_8

set_option maxHeartbeats 4000000 in
set_option maxRecDepth 100000 in
theorem c_X3_reckon (l : Launch) (D : va_G) (cZ cI : ClassId) (b : Nat → Nat) (t0 : Nat) (g0 : Option Nat) (sz : Nat)   : Met l yX3_reckon wsX3_reckon ({ frames := 0, cells := 1, slots := 768, locals := 0 }) (WrP D cZ cI [.ref (b 0)] (pM cZ cI b t0 0 g0 (fun _ => false)) sz) (WrV D (pM cZ cI b t0 0 g0 (fun _ => false)) (va_A (pM cZ cI b t0 0 g0 (fun _ => false)) sz)) 1 768 (va_A (pM cZ cI b t0 0 g0 (fun _ => false)) sz) := by
  refine Met.ofW (cc := cX3_reckon) (maxL := 7) (ret := none) (by decide) rfl ?_
  intro p e s m args below meth c s₁ B hml hv
  obtain ⟨rfl, hsz, hP, hZ, hD0⟩ := hv
  have hx := B.exec
  have hb := B.bytes
  have hr := B.returns
  have hts := atoms_spec (ws := wsX3_reckon) B.pre
  have hown : s.vm.findClass RX3 = some m.cls := findClass_of_methodNamed B.named
  have hlocks := B.notSynchronized
  subst hsz
  have hD := hD0.self (sz := s.heap.size)
  generalize hAe : va_A (pM cZ cI b t0 0 g0 (fun _ => false)) s.heap.size = A at hD ⊢
  have hA : ∀ q : Nat, s.heap.size ≤ q → A q := fun q h => by rw [← hAe]; exact Or.inr h
  have hS : va_S A s.heap s.heap [] := va_S.rf
  have hP : va_P D vwCl (pM cZ cI b t0 0 g0 (fun _ => false)) s.heap := hP
  have hl := lv_entry ([.ref (b 0)]) (n := 7) (Nat.le_of_ble_eq_true rfl)
  rw [lg_entry_eq]
  generalize (lg_sl ([.ref (b 0)]) ++ List.replicate (7 - (lg_sl ([.ref (b 0)])).length) Slot.unset).toArray = ls at hl ⊢
  have hl : lv_has ls 7 [(0, .ref (b 0))] := hl
  have hin3 : ∀ w ∈ u_ws RX3 TX3 20, w ∈ wsX3_reckon := by decide +kernel
  have hf9 := hts (.fieldLink RX3 9 "DoorChaseModel" "safe" "[Z") (by decide +kernel)
  have hf32 := hts (.fieldLink RX3 32 "DoorChaseModel" "sure" "[I") (by decide +kernel)
  have hf43 := hts (.fieldLink RX3 43 "DoorChaseModel" "rooms" "I") (by decide +kernel)
  refine lv_sipush (v := nI 768) hx hb dX3_reckon_0 (by decide) ?_
  refine va_newa (atype := .boolean) hx hb (hts (.arrayClass .boolean) (by decide +kernel)) (ty := .boolean) rfl hZ.1 hP hD hS hA (N' := 768) (a0 := (768, .inl (fun _ => 0))) (fun _ => rfl) (by decide) rfl (by decide) (Nat.le_of_ble_eq_true rfl) (Nat.le_of_ble_eq_true rfl) dX3_reckon_3 (fun a9 cA H hK1 hP hD hS => ?_)
  refine W.widen (k := 1) (n := 768) (by omega) (by omega) ?_
  replace hP := hP.sub (ws' := pM cZ cI b t0 0 g0 (fun _ => false)) [0, 1, 2, 3, 4, 5, 6, 7, 8] rfl
  replace hD := hD.sub (ws' := pM cZ cI b t0 0 g0 (fun _ => false)) [0, 1, 2, 3, 4, 5, 6, 7, 8] (by decide) rfl
  refine lv_astore_n (lv' := [(1, .ref a9), (0, .ref (b 0))]) hx hb dX3_reckon_5 rfl hl (by decide) rfl (fun ls hl => ?_)
  refine lv_iconst (v := nI 0) hx hb dX3_reckon_6 (by decide) ?_
  refine lv_istore_n (lv' := [(2, .int (nI 0)), (1, .ref a9), (0, .ref (b 0))]) hx hb dX3_reckon_7 rfl hl (by decide) rfl (fun ls hl => ?_)
  have loop8 : ∀ (n : Nat) (i : Nat), 12 + 1 ≤ i + n → (i ≤ 12) → ∀ (H : Heap) (locs : List Loc), va_P D vwCl (pM cZ cI b t0 0 g0 (fun _ => false)) H → va_D A (pM cZ cI b t0 0 g0 (fun _ => false)) → va_S A s.heap H locs → ∀ (ls : Array Slot), lv_has ls 7 [(0, .ref (b 0)), (1, .ref a9), (2, .int (nI i))] → W p l e (headSpec wsX3_reckon ({ frames := 0, cells := 1, slots := 768, locals := 0 })).room s m ([.ref (b 0)] : List Value).toArray below meth c H locs 1 768 (MQ below (WrV D (pM cZ cI b t0 0 g0 (fun _ => false)) A) ([.ref (b 0)] : List Value).toArray s 1 768 A) (F0 m 8 ls []) := by
    intro n
    induction n with
    | zero =>
      intro i hmeas hi H locs hP hD hS ls hl
      exact absurd hmeas (by omega)
    | succ n ih8 =>
      intro i hmeas hi H locs hP hD hS ls hl
      refine lv_iload_n hx hb dX3_reckon_8 rfl (lv_at hl 2 rfl) ?_
      refine lv_bipush (v := nI 12) hx hb dX3_reckon_9 (by decide) ?_
      refine rv_ge (tgt := 94) hx hb (by omega) (by omega) dX3_reckon_11 (by decide) (fun c11_1 => ?_) (fun c11_1 => ?_)
      · skip
        refine lv_iconst (v := nI 1) hx hb dX3_reckon_94 (by decide) ?_
        refine rv_top (show nI 1 = bI true from rfl) ?_
        refine lv_istore_n (lv' := [(2, .int (bI true)), (0, .ref (b 0)), (1, .ref a9)]) hx hb dX3_reckon_95 rfl hl (by decide) rfl (fun ls hl => ?_)
        refine lv_iconst (v := nI 1) hx hb dX3_reckon_96 (by decide) ?_
        refine lv_istore_n (lv' := [(3, .int (nI 1)), (2, .int (bI true)), (0, .ref (b 0)), (1, .ref a9)]) hx hb dX3_reckon_97 rfl hl (by decide) rfl (fun ls hl => ?_)
        refine lv_iload_n hx hb dX3_reckon_98 rfl (lv_at hl 1 rfl) ?_
        refine rv_ifeqB (tgt := 224) hx hb dX3_reckon_99 (by decide) (fun c99_2 => ?_) (fun c99_2 => ?_)
        · skip
          exact Bool.noConfusion c99_2
        · skip
          refine lv_iconst (v := nI 0) hx hb dX3_reckon_102 (by decide) ?_
          refine rv_top (show nI 0 = bI false from rfl) ?_
          refine lv_istore_n (lv' := [(2, .int (bI false)), (3, .int (nI 1)), (0, .ref (b 0)), (1, .ref a9)]) hx hb dX3_reckon_103 rfl hl (by decide) rfl (fun ls hl => ?_)
          refine lv_iconst (v := nI 0) hx hb dX3_reckon_104 (by decide) ?_
          refine lv_istore (lv' := [(4, .int (nI 0)), (2, .int (bI false)), (3, .int (nI 1)), (0, .ref (b 0)), (1, .ref a9)]) hx hb dX3_reckon_105 hl (by decide) rfl (fun ls hl => ?_)
          have loop107 : ∀ (n : Nat) (i : Nat), 12 + 1 ≤ i + n → (i ≤ 12) → ∀ (H : Heap) (locs : List Loc), va_P D vwCl (pM cZ cI b t0 0 g0 (fun _ => false)) H → va_D A (pM cZ cI b t0 0 g0 (fun _ => false)) → va_S A s.heap H locs → ∀ (ls : Array Slot), lv_has ls 7 [(0, .ref (b 0)), (1, .ref a9), (2, .int (bI false)), (3, .int (nI 1)), (4, .int (nI i))] → W p l e (headSpec wsX3_reckon ({ frames := 0, cells := 1, slots := 768, locals := 0 })).room s m ([.ref (b 0)] : List Value).toArray below meth c H locs 1 768 (MQ below (WrV D (pM cZ cI b t0 0 g0 (fun _ => false)) A) ([.ref (b 0)] : List Value).toArray s 1 768 A) (F0 m 107 ls []) := by
            intro n
            induction n with
            | zero =>
              intro i hmeas hi H locs hP hD hS ls hl
              exact absurd hmeas (by omega)
            | succ n ih107 =>
              intro i hmeas hi H locs hP hD hS ls hl
              refine lv_iload hx hb dX3_reckon_107 (lv_at hl 4 rfl) ?_
              refine lv_bipush (v := nI 12) hx hb dX3_reckon_109 (by decide) ?_
              refine rv_ge (tgt := 218) hx hb (by omega) (by omega) dX3_reckon_111 (by decide) (fun c111_3 => ?_) (fun c111_3 => ?_)
              · skip
                refine lv_iinc (v := nI (1 + 1)) (lv' := [(3, .int (nI (1 + 1))), (0, .ref (b 0)), (1, .ref a9), (2, .int (bI false)), (4, .int (nI i))]) hx hb dX3_reckon_218 hl (k := 3) rfl (nI_add 1 1) (by decide) rfl (fun ls hl => ?_)
                refine lv_goto (tgt := 98) hx hb dX3_reckon_221 (by decide) ?_
                refine lv_iload_n hx hb dX3_reckon_98 rfl (lv_at hl 3 rfl) ?_
                refine rv_ifeqB (tgt := 224) hx hb dX3_reckon_99 (by decide) (fun c99_4 => ?_) (fun c99_4 => ?_)
                · skip
                  have hP9 : va_P D vwCl (pM cZ cI b t0 0 g0 (fun _ => false)) H := by exact hP
                  have hD9 : va_D A (pM cZ cI b t0 0 g0 (fun _ => false)) := by exact hD
                  exact W.vret hx hb hr (fun t ht hW => ⟨⟨(), rfl, trivial, by rw [ht]; exact hP9, hD9⟩, hS.F ht⟩) hS.2.2 dX3_reckon_224
                · skip
                  exact Bool.noConfusion c99_4
              · skip
                refine lv_iconst (v := nI 0) hx hb dX3_reckon_114 (by decide) ?_
                refine lv_istore (lv' := [(5, .int (nI 0)), (0, .ref (b 0)), (1, .ref a9), (2, .int (bI false)), (3, .int (nI 1)), (4, .int (nI i))]) hx hb dX3_reckon_115 hl (by decide) rfl (fun ls hl => ?_)
                refine lv_iload hx hb dX3_reckon_117 (lv_at hl 0 rfl) ?_
                refine lv_aload_n hx hb dX3_reckon_119 rfl (lv_at hl 1 rfl) ?_
                refine va_get (D := D) (ci := 3) (v := .int (nI 0)) (C := RX3) (T := TX3) (N := 20) hx hb hts hin3 hown hZ.1 hP 0 rfl rfl 1 (by decide) hf43 (fun _ h9 => h9) rfl dX3_reckon_120 ?_
                refine rv_ge (tgt := 212) hx hb (by omega) (by omega) dX3_reckon_123 (by decide) (fun c123_5 => ?_) (fun c123_5 => ?_)
                · skip
                  refine lv_iinc (v := nI (i + 1)) (lv' := [(4, .int (nI (i + 1))), (5, .int (nI 0)), (0, .ref (b 0)), (1, .ref a9), (2, .int (bI false)), (3, .int (nI 1))]) hx hb dX3_reckon_212 hl (k := 5) rfl (nI_add i 1) (by decide) rfl (fun ls hl => ?_)
                  refine lv_goto (tgt := 107) hx hb dX3_reckon_215 (by decide) ?_
                  exact ih107 (i + 1) (by omega) (by omega) _ _ hP hD hS ls (lv_sub hl [2, 3, 4, 5, 0] rfl)
                · skip
                  exact absurd c123_5 (by decide)
          exact loop107 (12 + 1) 0 (by omega) (by omega) _ _ hP hD hS ls (lv_sub hl [3, 4, 1, 2, 0] rfl)
      · skip
        refine lv_iconst (v := nI 0) hx hb dX3_reckon_14 (by decide) ?_
        refine lv_istore_n (lv' := [(3, .int (nI 0)), (0, .ref (b 0)), (1, .ref a9), (2, .int (nI i))]) hx hb dX3_reckon_15 rfl hl (by decide) rfl (fun ls hl => ?_)
        refine lv_iload_n hx hb dX3_reckon_16 rfl (lv_at hl 0 rfl) ?_
        refine lv_aload_n hx hb dX3_reckon_17 rfl (lv_at hl 1 rfl) ?_
        refine va_get (D := D) (ci := 3) (v := .int (nI 0)) (C := RX3) (T := TX3) (N := 20) hx hb hts hin3 hown hZ.1 hP 0 rfl rfl 1 (by decide) hf43 (fun _ h9 => h9) rfl dX3_reckon_18 ?_
        refine rv_ge (tgt := 88) hx hb (by omega) (by omega) dX3_reckon_21 (by decide) (fun c21_6 => ?_) (fun c21_6 => ?_)
        · skip
          refine lv_iinc (v := nI (i + 1)) (lv' := [(2, .int (nI (i + 1))), (3, .int (nI 0)), (0, .ref (b 0)), (1, .ref a9)]) hx hb dX3_reckon_88 hl (k := 3) rfl (nI_add i 1) (by decide) rfl (fun ls hl => ?_)
          refine lv_goto (tgt := 8) hx hb dX3_reckon_91 (by decide) ?_
          exact ih8 (i + 1) (by omega) (by omega) _ _ hP hD hS ls (lv_sub hl [2, 3, 0] rfl)
        · skip
          exact absurd c21_6 (by decide)
  exact loop8 (12 + 1) 0 (by omega) (by omega) _ _ hP hD hS ls (lv_sub hl [2, 1, 0] rfl)

set_option maxHeartbeats 4000000 in
set_option maxRecDepth 100000 in
theorem c_X3_count (l : Launch) (D : va_G) (cZ cI : ClassId) (b : Nat → Nat) (t0 : Nat) (g0 : Option Nat) (sz : Nat)   : Met l yX3_count wsX3_count ({ frames := 1, cells := 1, slots := 768, locals := 64 }) (WrP D cZ cI [.ref (b 0)] (pM cZ cI b t0 0 g0 (fun _ => false)) sz) (WrV D (pM cZ cI b t0 0 none (fun _ => false)) (va_A (pM cZ cI b t0 0 g0 (fun _ => false)) sz)) 1 768 (va_A (pM cZ cI b t0 0 g0 (fun _ => false)) sz) := by
  refine Met.ofW (cc := cX3_count) (maxL := 4) (ret := none) (by decide) rfl ?_
  intro p e s m args below meth c s₁ B hml hv
  obtain ⟨rfl, hsz, hP, hZ, hD0⟩ := hv
  have hx := B.exec
  have hb := B.bytes
  have hr := B.returns
  have hts := atoms_spec (ws := wsX3_count) B.pre
  have hown : s.vm.findClass RX3 = some m.cls := findClass_of_methodNamed B.named
  have hlocks := B.notSynchronized
  subst hsz
  have hD := hD0.self (sz := s.heap.size)
  generalize hAe : va_A (pM cZ cI b t0 0 g0 (fun _ => false)) s.heap.size = A at hD ⊢
  have hA : ∀ q : Nat, s.heap.size ≤ q → A q := fun q h => by rw [← hAe]; exact Or.inr h
  have hS : va_S A s.heap s.heap [] := va_S.rf
  have hP : va_P D vwCl (pM cZ cI b t0 0 g0 (fun _ => false)) s.heap := hP
  have hl := lv_entry ([.ref (b 0)]) (n := 4) (Nat.le_of_ble_eq_true rfl)
  rw [lg_entry_eq]
  generalize (lg_sl ([.ref (b 0)]) ++ List.replicate (4 - (lg_sl ([.ref (b 0)])).length) Slot.unset).toArray = ls at hl ⊢
  have hl : lv_has ls 4 [(0, .ref (b 0))] := hl
  have hin3 : ∀ w ∈ u_ws RX3 TX3 20, w ∈ wsX3_count := by decide +kernel
  have hf9 := hts (.fieldLink RX3 9 "DoorChaseModel" "safe" "[Z") (by decide +kernel)
  have hf32 := hts (.fieldLink RX3 32 "DoorChaseModel" "sure" "[I") (by decide +kernel)
  have hf43 := hts (.fieldLink RX3 43 "DoorChaseModel" "rooms" "I") (by decide +kernel)
  have hf92 := hts (.fieldLink RX3 92 "DoorChaseModel" "turn" "I") (by decide +kernel)
  have hf147 := hts (.fieldLink RX3 147 "DoorChaseModel" "pairs" "I") (by decide +kernel)
  have hf150 := hts (.fieldLink RX3 150 "DoorChaseModel" "greatest" "I") (by decide +kernel)
  have hf153 := hts (.fieldLink RX3 153 "DoorChaseModel" "sum" "I") (by decide +kernel)
  refine lv_aload_n hx hb dX3_count_0 rfl (lv_at hl 0 rfl) ?_
  have hFc := va_free (wc := pM cZ cI b t0 0 g0 (fun _ => false)) hD hS hA [0, 1, 2, 3, 4, 5, 6, 7, 8] rfl
  refine va_callv (va_runV (As := []) (rest := []) ⟨hx, hb, hml, hown, hts⟩ (c_X3_reckon l D cZ cI b t0 g0 s.heap.size  ) (cwV 0 hts gX3_count_X3_reckon rfl rfl rfl (by decide +kernel) ⟨Nat.le_of_ble_eq_true rfl, Nat.le_of_ble_eq_true rfl⟩) ⟨WrP_blind, va_recv hZ.1 hP (ci := 3) (q0 := 0) rfl rfl, WrP_start hP hD hZ⟩ rfl rfl hl.1 rfl (lv_room (Nat.le_of_ble_eq_true rfl)) dX3_count_1 ⟨Nat.le_of_ble_eq_true rfl, Nat.le_of_ble_eq_true rfl⟩) hS (fun q _ h => hFc q h) hFc (fun u t H1 locs ht hvm hw hB hz1 hk1 hS => ?_)
  obtain ⟨hP, hD⟩ := hB
  rw [ht] at hP
  replace hD := hD.weaken (fun _ _ _ h => hFc _ h)
  generalize H1 = H at hP hS ⊢
  refine W.widen (k := 1) (n := 768) (by omega) (by omega) ?_
  have hP : va_P D vwCl (pM cZ cI b t0 0 g0 (fun _ => false)) H := hP
  have hD : va_D A (pM cZ cI b t0 0 g0 (fun _ => false)) := hD
  refine lv_aload_n hx hb dX3_count_4 rfl (lv_at hl 0 rfl) ?_
  refine lv_iconst (v := nI 0) hx hb dX3_count_5 (by decide) ?_
  refine va_put (D := D) (ci := 3) (v := .int (nI 0)) (ty := .int) (C := RX3) (T := TX3) (N := 20) hx hb hts hin3 tyX3 tyX3_ok nmX3 hown hZ.1 hP hD hS 0 rfl rfl 17 (by decide) hf147 (fun _ h9 => h9) rfl (by decide +kernel) rfl rfl (Nat.le_of_ble_eq_true rfl) dX3_count_6 (fun H locs hP hD hS => ?_)
  have hP : va_P D vwCl (pM cZ cI b t0 0 g0 (fun _ => false)) H := hP
  have hD : va_D A (pM cZ cI b t0 0 g0 (fun _ => false)) := hD
  refine lv_aload_n hx hb dX3_count_9 rfl (lv_at hl 0 rfl) ?_
  refine lv_iconst (v := (-1)) hx hb dX3_count_10 (by decide) ?_
  refine va_put (D := D) (ci := 3) (v := .int ((-1))) (ty := .int) (C := RX3) (T := TX3) (N := 20) hx hb hts hin3 tyX3 tyX3_ok nmX3 hown hZ.1 hP hD hS 0 rfl rfl 18 (by decide) hf150 (fun _ h9 => h9) rfl (by decide +kernel) rfl rfl (Nat.le_of_ble_eq_true rfl) dX3_count_11 (fun H locs hP hD hS => ?_)
  have hP : va_P D vwCl (pM cZ cI b t0 0 none (fun _ => false)) H := hP
  have hD : va_D A (pM cZ cI b t0 0 none (fun _ => false)) := hD
  refine lv_aload_n hx hb dX3_count_14 rfl (lv_at hl 0 rfl) ?_
  refine lv_iconst (v := nI 0) hx hb dX3_count_15 (by decide) ?_
  refine va_put (D := D) (ci := 3) (v := .int (nI 0)) (ty := .int) (C := RX3) (T := TX3) (N := 20) hx hb hts hin3 tyX3 tyX3_ok nmX3 hown hZ.1 hP hD hS 0 rfl rfl 19 (by decide) hf153 (fun _ h9 => h9) rfl (by decide +kernel) rfl rfl (Nat.le_of_ble_eq_true rfl) dX3_count_16 (fun H locs hP hD hS => ?_)
  have hP : va_P D vwCl (pM cZ cI b t0 0 none (fun _ => false)) H := hP
  have hD : va_D A (pM cZ cI b t0 0 none (fun _ => false)) := hD
  refine lv_iconst (v := nI 0) hx hb dX3_count_19 (by decide) ?_
  refine lv_istore_n (lv' := [(1, .int (nI 0)), (0, .ref (b 0))]) hx hb dX3_count_20 rfl hl (by decide) rfl (fun ls hl => ?_)
  refine lv_iload_n hx hb dX3_count_21 rfl (lv_at hl 0 rfl) ?_
  refine lv_aload_n hx hb dX3_count_22 rfl (lv_at hl 1 rfl) ?_
  refine va_get (D := D) (ci := 3) (v := .int (nI 0)) (C := RX3) (T := TX3) (N := 20) hx hb hts hin3 hown hZ.1 hP 0 rfl rfl 1 (by decide) hf43 (fun _ h9 => h9) rfl dX3_count_23 ?_
  refine rv_ge (tgt := 119) hx hb (by omega) (by omega) dX3_count_26 (by decide) (fun c26_1 => ?_) (fun c26_1 => ?_)
  · skip
    have hP9 : va_P D vwCl (pM cZ cI b t0 0 none (fun _ => false)) H := by exact hP
    have hD9 : va_D A (pM cZ cI b t0 0 none (fun _ => false)) := by exact hD
    exact W.vret hx hb hr (fun t ht hW => ⟨⟨(), rfl, trivial, by rw [ht]; exact hP9, hD9⟩, hS.F ht⟩) hS.2.2 dX3_count_119
  · skip
    exact absurd c26_1 (by decide)

set_option maxHeartbeats 4000000 in
set_option maxRecDepth 100000 in
theorem c_X3_counted (l : Launch) (D : va_G) (cZ cI : ClassId) (b : Nat → Nat) (t0 : Nat) (g0 : Option Nat) (sz : Nat) (w9 : Nat) (hw9 : w9 < 2 ^ 31) : Met l yX3_counted wsX3_counted ({ frames := 2, cells := 1, slots := 768, locals := 87 }) (WrP D cZ cI [.ref (b 0), .int (nI w9)] (pM cZ cI b t0 0 g0 (fun _ => false)) sz) (WrI D (pM cZ cI b t0 0 none (fun _ => false)) (va_A (pM cZ cI b t0 0 g0 (fun _ => false)) sz) (iO (if w9 = 0 then some 0 else none))) 1 768 (va_A (pM cZ cI b t0 0 g0 (fun _ => false)) sz) := by
  refine Met.ofW (cc := cX3_counted) (maxL := 2) (ret := (some .int)) (by decide) rfl ?_
  intro p e s m args below meth c s₁ B hml hv
  obtain ⟨rfl, hsz, hP, hZ, hD0⟩ := hv
  have hx := B.exec
  have hb := B.bytes
  have hr := B.returns
  have hts := atoms_spec (ws := wsX3_counted) B.pre
  have hown : s.vm.findClass RX3 = some m.cls := findClass_of_methodNamed B.named
  have hlocks := B.notSynchronized
  subst hsz
  have hD := hD0.self (sz := s.heap.size)
  generalize hAe : va_A (pM cZ cI b t0 0 g0 (fun _ => false)) s.heap.size = A at hD ⊢
  have hA : ∀ q : Nat, s.heap.size ≤ q → A q := fun q h => by rw [← hAe]; exact Or.inr h
  have hS : va_S A s.heap s.heap [] := va_S.rf
  have hP : va_P D vwCl (pM cZ cI b t0 0 g0 (fun _ => false)) s.heap := hP
  have hl := lv_entry ([.ref (b 0), .int (nI w9)]) (n := 2) (Nat.le_of_ble_eq_true rfl)
  rw [lg_entry_eq]
  generalize (lg_sl ([.ref (b 0), .int (nI w9)]) ++ List.replicate (2 - (lg_sl ([.ref (b 0), .int (nI w9)])).length) Slot.unset).toArray = ls at hl ⊢
  have hl : lv_has ls 2 [(0, .ref (b 0)), (1, .int (nI w9))] := hl
  have hin3 : ∀ w ∈ u_ws RX3 TX3 20, w ∈ wsX3_counted := by decide +kernel
  have hf147 := hts (.fieldLink RX3 147 "DoorChaseModel" "pairs" "I") (by decide +kernel)
  have hf150 := hts (.fieldLink RX3 150 "DoorChaseModel" "greatest" "I") (by decide +kernel)
  refine lv_aload_n hx hb dX3_counted_0 rfl (lv_at hl 0 rfl) ?_
  have hFc := va_free (wc := pM cZ cI b t0 0 g0 (fun _ => false)) hD hS hA [0, 1, 2, 3, 4, 5, 6, 7, 8] rfl
  refine va_callv (va_runV (As := []) (rest := []) ⟨hx, hb, hml, hown, hts⟩ (c_X3_count l D cZ cI b t0 g0 s.heap.size  ) (cwV 0 hts gX3_counted_X3_count rfl rfl rfl (by decide +kernel) ⟨Nat.le_of_ble_eq_true rfl, Nat.le_of_ble_eq_true rfl⟩) ⟨WrP_blind, va_recv hZ.1 hP (ci := 3) (q0 := 0) rfl rfl, WrP_start hP hD hZ⟩ rfl rfl hl.1 rfl (lv_room (Nat.le_of_ble_eq_true rfl)) dX3_counted_1 ⟨Nat.le_of_ble_eq_true rfl, Nat.le_of_ble_eq_true rfl⟩) hS (fun q _ h => hFc q h) hFc (fun u t H1 locs ht hvm hw hB hz1 hk1 hS => ?_)
  obtain ⟨hP, hD⟩ := hB
  rw [ht] at hP
  replace hD := hD.weaken (fun _ _ _ h => hFc _ h)
  generalize H1 = H at hP hS ⊢
  refine W.widen (k := 1) (n := 768) (by omega) (by omega) ?_
  have hP : va_P D vwCl (pM cZ cI b t0 0 none (fun _ => false)) H := hP
  have hD : va_D A (pM cZ cI b t0 0 none (fun _ => false)) := hD
  refine lv_iload_n hx hb dX3_counted_4 rfl (lv_at hl 1 rfl) ?_
  refine rv_ifneN (tgt := 15) hx hb (by omega) dX3_counted_5 (by decide) (fun c5_1 => ?_) (fun c5_1 => ?_)
  · skip
    refine lv_aload_n hx hb dX3_counted_15 rfl (lv_at hl 0 rfl) ?_
    refine va_get (D := D) (ci := 3) (v := .int (iO none)) (C := RX3) (T := TX3) (N := 20) hx hb hts hin3 hown hZ.1 hP 0 rfl rfl 18 (by decide) hf150 (fun _ h9 => h9) rfl dX3_counted_16 ?_
    have hP9 : va_P D vwCl (pM cZ cI b t0 0 none (fun _ => false)) H := by exact hP
    have hD9 : va_D A (pM cZ cI b t0 0 none (fun _ => false)) := by exact hD
    exact W.iret (v := iO none) hx hb hr (fun t ht hW => ⟨⟨_, (), rfl, (show iO none = iO (if w9 = 0 then some 0 else none) from by first | (rw [if_pos (by assumption)]; rfl) | (rw [if_neg (by assumption)])), by rw [ht]; exact hP9, hD9⟩, hS.F ht⟩) hS.2.2 dX3_counted_19
  · skip
    refine lv_aload_n hx hb dX3_counted_8 rfl (lv_at hl 0 rfl) ?_
    refine va_get (D := D) (ci := 3) (v := .int (nI 0)) (C := RX3) (T := TX3) (N := 20) hx hb hts hin3 hown hZ.1 hP 0 rfl rfl 17 (by decide) hf147 (fun _ h9 => h9) rfl dX3_counted_9 ?_
    refine lv_goto (tgt := 19) hx hb dX3_counted_12 (by decide) ?_
    have hP9 : va_P D vwCl (pM cZ cI b t0 0 none (fun _ => false)) H := by exact hP
    have hD9 : va_D A (pM cZ cI b t0 0 none (fun _ => false)) := by exact hD
    exact W.iret (v := nI 0) hx hb hr (fun t ht hW => ⟨⟨_, (), rfl, (show nI 0 = iO (if w9 = 0 then some 0 else none) from by first | (rw [if_pos (by assumption)]; rfl) | (rw [if_neg (by assumption)])), by rw [ht]; exact hP9, hD9⟩, hS.F ht⟩) hS.2.2 dX3_counted_19

set_option maxHeartbeats 4000000 in
set_option maxRecDepth 100000 in
theorem c_X3_pairsCaught (l : Launch) (D : va_G) (cZ cI : ClassId) (b : Nat → Nat) (t0 : Nat) (g0 : Option Nat) (sz : Nat)   : Met l yX3_pairsCaught wsX3_pairsCaught ({ frames := 3, cells := 1, slots := 768, locals := 108 }) (WrP D cZ cI [.ref (b 0)] (pM cZ cI b t0 0 g0 (fun _ => false)) sz) (WrI D (pM cZ cI b 0 0 none (fun _ => false)) (va_A (pM cZ cI b t0 0 g0 (fun _ => false)) sz) (nI 0)) 1 768 (va_A (pM cZ cI b t0 0 g0 (fun _ => false)) sz) := by
  refine Met.ofW (cc := cX3_pairsCaught) (maxL := 1) (ret := (some .int)) (by decide) rfl ?_
  intro p e s m args below meth c s₁ B hml hv
  obtain ⟨rfl, hsz, hP, hZ, hD0⟩ := hv
  have hx := B.exec
  have hb := B.bytes
  have hr := B.returns
  have hts := atoms_spec (ws := wsX3_pairsCaught) B.pre
  have hown : s.vm.findClass RX3 = some m.cls := findClass_of_methodNamed B.named
  have hlocks := B.notSynchronized
  subst hsz
  have hD := hD0.self (sz := s.heap.size)
  generalize hAe : va_A (pM cZ cI b t0 0 g0 (fun _ => false)) s.heap.size = A at hD ⊢
  have hA : ∀ q : Nat, s.heap.size ≤ q → A q := fun q h => by rw [← hAe]; exact Or.inr h
  have hS : va_S A s.heap s.heap [] := va_S.rf
  have hP : va_P D vwCl (pM cZ cI b t0 0 g0 (fun _ => false)) s.heap := hP
  have hl := lv_entry ([.ref (b 0)]) (n := 1) (Nat.le_of_ble_eq_true rfl)
  rw [lg_entry_eq]
  generalize (lg_sl ([.ref (b 0)]) ++ List.replicate (1 - (lg_sl ([.ref (b 0)])).length) Slot.unset).toArray = ls at hl ⊢
  have hl : lv_has ls 1 [(0, .ref (b 0))] := hl
  refine lv_aload_n hx hb dX3_pairsCaught_0 rfl (lv_at hl 0 rfl) ?_
  refine lv_aload_n hx hb dX3_pairsCaught_1 rfl (lv_at hl 0 rfl) ?_
  refine lv_iconst (v := nI 0) hx hb dX3_pairsCaught_2 (by decide) ?_
  have hFc := va_free (wc := pM cZ cI b t0 0 g0 (fun _ => false)) hD hS hA [0, 1, 2, 3, 4, 5, 6, 7, 8] rfl
  refine va_calli (va_runV (As := [.int (nI 0)]) (rest := [.ref (b 0)]) ⟨hx, hb, hml, hown, hts⟩ (c_X3_counted l D cZ cI b t0 g0 s.heap.size 0 (by first | assumption | omega)) (cwV 1 hts gX3_pairsCaught_X3_counted rfl rfl rfl (by decide +kernel) ⟨Nat.le_of_ble_eq_true rfl, Nat.le_of_ble_eq_true rfl⟩) ⟨WrP_blind, va_recv hZ.1 hP (ci := 3) (q0 := 0) rfl rfl, WrP_start hP hD hZ⟩ rfl rfl hl.1 rfl (lv_room (Nat.le_of_ble_eq_true rfl)) dX3_pairsCaught_3 ⟨Nat.le_of_ble_eq_true rfl, Nat.le_of_ble_eq_true rfl⟩) hS (fun q _ h => hFc q h) hFc (fun r9 u t H1 locs ht hvm hw hB hz1 hk1 hS => ?_)
  obtain ⟨hP, hD⟩ := hB
  rw [ht] at hP
  replace hD := hD.weaken (fun _ _ _ h => hFc _ h)
  generalize H1 = H at hP hS ⊢
  refine W.widen (k := 1) (n := 768) (by omega) (by omega) ?_
  have hP : va_P D vwCl (pM cZ cI b t0 0 none (fun _ => false)) H := hP
  have hD : va_D A (pM cZ cI b t0 0 none (fun _ => false)) := hD
  subst hw
  refine rv_top (show _ = iO (if 0 = 0 then some 0 else none) from rfl) ?_
  have hFc := va_free (wc := pM cZ cI b t0 0 none (fun _ => false)) hD hS hA [0, 1, 2, 3, 4, 5, 6, 7, 8] rfl
  refine va_calli (va_runV (As := [.int (iO (if 0 = 0 then some 0 else none))]) (rest := []) ⟨hx, hb, hml, hown, hts⟩ (c_X3_plain l D cZ cI b t0 none H.size (iO (if 0 = 0 then some 0 else none)) ) (cwV 1 hts gX3_pairsCaught_X3_plain rfl rfl rfl (by decide +kernel) ⟨Nat.le_of_ble_eq_true rfl, Nat.le_of_ble_eq_true rfl⟩) ⟨WrP_blind, va_recv hZ.1 hP (ci := 3) (q0 := 0) rfl rfl, WrP_start hP hD hZ⟩ rfl rfl hl.1 rfl (lv_room (Nat.le_of_ble_eq_true rfl)) dX3_pairsCaught_6 ⟨Nat.le_of_ble_eq_true rfl, Nat.le_of_ble_eq_true rfl⟩) hS (fun q _ h => hFc q h) hFc (fun r9 u t H1 locs ht hvm hw hB hz1 hk1 hS => ?_)
  obtain ⟨hP, hD⟩ := hB
  rw [ht] at hP
  replace hD := hD.weaken (fun _ _ _ h => hFc _ h)
  generalize H1 = H at hP hS ⊢
  have hP : va_P D vwCl (pM cZ cI b 0 0 none (fun _ => false)) H := hP
  have hD : va_D A (pM cZ cI b 0 0 none (fun _ => false)) := hD
  subst hw
  refine rv_top (show _ = (iO (if 0 = 0 then some 0 else none)) from rfl) ?_
  have hP9 : va_P D vwCl (pM cZ cI b 0 0 none (fun _ => false)) H := by exact hP
  have hD9 : va_D A (pM cZ cI b 0 0 none (fun _ => false)) := by exact hD
  exact W.iret (v := (iO (if 0 = 0 then some 0 else none))) hx hb hr (fun t ht hW => ⟨⟨_, (), rfl, rfl, by rw [ht]; exact hP9, hD9⟩, hS.F ht⟩) hS.2.2 dX3_pairsCaught_9

set_option maxHeartbeats 4000000 in
set_option maxRecDepth 100000 in
theorem c_X3_longestChase (l : Launch) (D : va_G) (cZ cI : ClassId) (b : Nat → Nat) (t0 : Nat) (g0 : Option Nat) (sz : Nat)   : Met l yX3_longestChase wsX3_longestChase ({ frames := 3, cells := 1, slots := 768, locals := 108 }) (WrP D cZ cI [.ref (b 0)] (pM cZ cI b t0 0 g0 (fun _ => false)) sz) (WrI D (pM cZ cI b 0 0 none (fun _ => false)) (va_A (pM cZ cI b t0 0 g0 (fun _ => false)) sz) ((-1))) 1 768 (va_A (pM cZ cI b t0 0 g0 (fun _ => false)) sz) := by
  refine Met.ofW (cc := cX3_longestChase) (maxL := 1) (ret := (some .int)) (by decide) rfl ?_
  intro p e s m args below meth c s₁ B hml hv
  obtain ⟨rfl, hsz, hP, hZ, hD0⟩ := hv
  have hx := B.exec
  have hb := B.bytes
  have hr := B.returns
  have hts := atoms_spec (ws := wsX3_longestChase) B.pre
  have hown : s.vm.findClass RX3 = some m.cls := findClass_of_methodNamed B.named
  have hlocks := B.notSynchronized
  subst hsz
  have hD := hD0.self (sz := s.heap.size)
  generalize hAe : va_A (pM cZ cI b t0 0 g0 (fun _ => false)) s.heap.size = A at hD ⊢
  have hA : ∀ q : Nat, s.heap.size ≤ q → A q := fun q h => by rw [← hAe]; exact Or.inr h
  have hS : va_S A s.heap s.heap [] := va_S.rf
  have hP : va_P D vwCl (pM cZ cI b t0 0 g0 (fun _ => false)) s.heap := hP
  have hl := lv_entry ([.ref (b 0)]) (n := 1) (Nat.le_of_ble_eq_true rfl)
  rw [lg_entry_eq]
  generalize (lg_sl ([.ref (b 0)]) ++ List.replicate (1 - (lg_sl ([.ref (b 0)])).length) Slot.unset).toArray = ls at hl ⊢
  have hl : lv_has ls 1 [(0, .ref (b 0))] := hl
  refine lv_aload_n hx hb dX3_longestChase_0 rfl (lv_at hl 0 rfl) ?_
  refine lv_aload_n hx hb dX3_longestChase_1 rfl (lv_at hl 0 rfl) ?_
  refine lv_iconst (v := nI 1) hx hb dX3_longestChase_2 (by decide) ?_
  have hFc := va_free (wc := pM cZ cI b t0 0 g0 (fun _ => false)) hD hS hA [0, 1, 2, 3, 4, 5, 6, 7, 8] rfl
  refine va_calli (va_runV (As := [.int (nI 1)]) (rest := [.ref (b 0)]) ⟨hx, hb, hml, hown, hts⟩ (c_X3_counted l D cZ cI b t0 g0 s.heap.size 1 (by first | assumption | omega)) (cwV 1 hts gX3_longestChase_X3_counted rfl rfl rfl (by decide +kernel) ⟨Nat.le_of_ble_eq_true rfl, Nat.le_of_ble_eq_true rfl⟩) ⟨WrP_blind, va_recv hZ.1 hP (ci := 3) (q0 := 0) rfl rfl, WrP_start hP hD hZ⟩ rfl rfl hl.1 rfl (lv_room (Nat.le_of_ble_eq_true rfl)) dX3_longestChase_3 ⟨Nat.le_of_ble_eq_true rfl, Nat.le_of_ble_eq_true rfl⟩) hS (fun q _ h => hFc q h) hFc (fun r9 u t H1 locs ht hvm hw hB hz1 hk1 hS => ?_)
  obtain ⟨hP, hD⟩ := hB
  rw [ht] at hP
  replace hD := hD.weaken (fun _ _ _ h => hFc _ h)
  generalize H1 = H at hP hS ⊢
  refine W.widen (k := 1) (n := 768) (by omega) (by omega) ?_
  have hP : va_P D vwCl (pM cZ cI b t0 0 none (fun _ => false)) H := hP
  have hD : va_D A (pM cZ cI b t0 0 none (fun _ => false)) := hD
  subst hw
  refine rv_top (show _ = iO (if 1 = 0 then some 0 else none) from rfl) ?_
  have hFc := va_free (wc := pM cZ cI b t0 0 none (fun _ => false)) hD hS hA [0, 1, 2, 3, 4, 5, 6, 7, 8] rfl
  refine va_calli (va_runV (As := [.int (iO (if 1 = 0 then some 0 else none))]) (rest := []) ⟨hx, hb, hml, hown, hts⟩ (c_X3_plain l D cZ cI b t0 none H.size (iO (if 1 = 0 then some 0 else none)) ) (cwV 1 hts gX3_longestChase_X3_plain rfl rfl rfl (by decide +kernel) ⟨Nat.le_of_ble_eq_true rfl, Nat.le_of_ble_eq_true rfl⟩) ⟨WrP_blind, va_recv hZ.1 hP (ci := 3) (q0 := 0) rfl rfl, WrP_start hP hD hZ⟩ rfl rfl hl.1 rfl (lv_room (Nat.le_of_ble_eq_true rfl)) dX3_longestChase_6 ⟨Nat.le_of_ble_eq_true rfl, Nat.le_of_ble_eq_true rfl⟩) hS (fun q _ h => hFc q h) hFc (fun r9 u t H1 locs ht hvm hw hB hz1 hk1 hS => ?_)
  obtain ⟨hP, hD⟩ := hB
  rw [ht] at hP
  replace hD := hD.weaken (fun _ _ _ h => hFc _ h)
  generalize H1 = H at hP hS ⊢
  have hP : va_P D vwCl (pM cZ cI b 0 0 none (fun _ => false)) H := hP
  have hD : va_D A (pM cZ cI b 0 0 none (fun _ => false)) := hD
  subst hw
  refine rv_top (show _ = (iO (if 1 = 0 then some 0 else none)) from rfl) ?_
  have hP9 : va_P D vwCl (pM cZ cI b 0 0 none (fun _ => false)) H := by exact hP
  have hD9 : va_D A (pM cZ cI b 0 0 none (fun _ => false)) := by exact hD
  exact W.iret (v := (iO (if 1 = 0 then some 0 else none))) hx hb hr (fun t ht hW => ⟨⟨_, (), rfl, rfl, by rw [ht]; exact hP9, hD9⟩, hS.F ht⟩) hS.2.2 dX3_longestChase_9

