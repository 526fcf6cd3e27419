set_option maxHeartbeats 4000000 in
set_option maxRecDepth 100000 in
theorem c_X3_add (l : Launch) (D : va_G) (cZ cI : ClassId)   (d : Int64) (x : Int64)  : Met l yX3_add wsX3_add ({ frames := 0, cells := 0, slots := 0, locals := 0 }) (RdP D cZ cI [.long d, .long x] ([])) (vp_Sl (fun r0 => r0 = d * 31 + x)) 0 0 (fun _ => False) := by
  refine Met.ofW (cc := cX3_add) (maxL := 4) (ret := (some .long)) (by decide) rfl ?_
  intro p e s m args below meth c s₁ B hml hv
  obtain ⟨rfl, hP, hZ⟩ := hv
  have hx := B.exec
  have hb := B.bytes
  have hr := B.returns
  have hts := atoms_spec (ws := wsX3_add) B.pre
  have hown : s.vm.findClass RX3 = some m.cls := findClass_of_methodNamed B.named
  have hlocks := B.notSynchronized
  have hP : va_P D vwCl ([]) s.heap := hP
  have hl := lv_entry ([.long d, .long x]) (n := 4) (Nat.le_of_ble_eq_true rfl)
  rw [lg_entry_eq]
  generalize (lg_sl ([.long d, .long x]) ++ List.replicate (4 - (lg_sl ([.long d, .long x])).length) Slot.unset).toArray = ls at hl ⊢
  have hl : lv_has ls 4 [(0, .long d), (2, .long x)] := hl
  refine lv_lload_n hx hb dX3_add_0 rfl (lv_at hl 0 rfl) ?_
  refine lv_ldc2 (v := 31) hx hb hown (hts (.constantLong RX3 170 31) (by decide +kernel)) dX3_add_1 ?_
  refine lv_lmul hx hb dX3_add_4 ?_
  refine lv_lload_n hx hb dX3_add_5 rfl (lv_at hl 1 rfl) ?_
  refine lv_ladd hx hb dX3_add_6 ?_
  exact W.lret (v := (d * 31) + x) hx hb hr (fun t ht hW => ⟨_, rfl, rfl, ht⟩) (fun q h => absurd h List.not_mem_nil) dX3_add_7

set_option maxHeartbeats 4000000 in
set_option maxRecDepth 100000 in
theorem c_X3_meanTurns (l : Launch) (D : va_G) (cZ cI : ClassId) (b : Nat → Nat) (t0 : Nat) (g0 : Option Nat) (sz : Nat)   : Met l yX3_meanTurns wsX3_meanTurns ({ frames := 2, cells := 1, slots := 768, locals := 87 }) (WrP D cZ cI [.ref (b 0)] (pM cZ cI b t0 0 g0 (fun _ => false)) sz) (va_Qd (fun r (_ : Unit) => r = FP.dconst0) (fun (_ : Unit) t => va_P D vwCl (pM cZ cI b 0 0 none (fun _ => false)) t.heap ∧ va_D (va_A (pM cZ cI b t0 0 g0 (fun _ => false)) sz) (pM cZ cI b 0 0 none (fun _ => false))) (va_A (pM cZ cI b t0 0 g0 (fun _ => false)) sz)) 1 768 (va_A (pM cZ cI b t0 0 g0 (fun _ => false)) sz) := by
  refine Met.ofW (cc := cX3_meanTurns) (maxL := 1) (ret := (some .double)) (by decide) rfl ?_
  intro p e s m args below meth c s₁ B hml hv
  obtain ⟨rfl, hsz, hP, hZ, hD0⟩ := hv
  have hx := B.exec
  have hb := B.bytes
  have hr := B.returns
  have hts := atoms_spec (ws := wsX3_meanTurns) B.pre
  have hown : s.vm.findClass RX3 = some m.cls := findClass_of_methodNamed B.named
  have hlocks := B.notSynchronized
  subst hsz
  have hD := hD0.self (sz := s.heap.size)
  generalize hAe : va_A (pM cZ cI b t0 0 g0 (fun _ => false)) s.heap.size = A at hD ⊢
  have hA : ∀ q : Nat, s.heap.size ≤ q → A q := fun q h => by rw [← hAe]; exact Or.inr h
  have hS : va_S A s.heap s.heap [] := va_S.rf
  have hP : va_P D vwCl (pM cZ cI b t0 0 g0 (fun _ => false)) s.heap := hP
  have hl := lv_entry ([.ref (b 0)]) (n := 1) (Nat.le_of_ble_eq_true rfl)
  rw [lg_entry_eq]
  generalize (lg_sl ([.ref (b 0)]) ++ List.replicate (1 - (lg_sl ([.ref (b 0)])).length) Slot.unset).toArray = ls at hl ⊢
  have hl : lv_has ls 1 [(0, .ref (b 0))] := hl
  have hin3 : ∀ w ∈ u_ws RX3 TX3 20, w ∈ wsX3_meanTurns := by decide +kernel
  have hf35 := hts (.fieldLink RX3 35 "DoorChaseModel" "thrown" "I") (by decide +kernel)
  have hf147 := hts (.fieldLink RX3 147 "DoorChaseModel" "pairs" "I") (by decide +kernel)
  have hf153 := hts (.fieldLink RX3 153 "DoorChaseModel" "sum" "I") (by decide +kernel)
  refine lv_aload_n hx hb dX3_meanTurns_0 rfl (lv_at hl 0 rfl) ?_
  refine lv_iconst (v := nI 0) hx hb dX3_meanTurns_1 (by decide) ?_
  refine va_put (D := D) (ci := 3) (v := .int (nI 0)) (ty := .int) (C := RX3) (T := TX3) (N := 20) hx hb hts hin3 tyX3 tyX3_ok nmX3 hown hZ.1 hP hD hS 0 rfl rfl 0 (by decide) hf35 (fun _ h9 => h9) rfl (by decide +kernel) rfl rfl (Nat.le_of_ble_eq_true rfl) dX3_meanTurns_2 (fun H locs hP hD hS => ?_)
  have hP : va_P D vwCl (pM cZ cI b 0 0 g0 (fun _ => false)) H := hP
  have hD : va_D A (pM cZ cI b 0 0 g0 (fun _ => false)) := hD
  refine lv_aload_n hx hb dX3_meanTurns_5 rfl (lv_at hl 0 rfl) ?_
  have hFc := va_free (wc := pM cZ cI b 0 0 g0 (fun _ => false)) hD hS hA [0, 1, 2, 3, 4, 5, 6, 7, 8] rfl
  refine va_callv (va_runV (As := []) (rest := []) ⟨hx, hb, hml, hown, hts⟩ (c_X3_count l D cZ cI b 0 g0 H.size  ) (cwV 0 hts gX3_meanTurns_X3_count rfl rfl rfl (by decide +kernel) ⟨Nat.le_of_ble_eq_true rfl, Nat.le_of_ble_eq_true rfl⟩) ⟨WrP_blind, va_recv hZ.1 hP (ci := 3) (q0 := 0) rfl rfl, WrP_start hP hD hZ⟩ rfl rfl hl.1 rfl (lv_room (Nat.le_of_ble_eq_true rfl)) dX3_meanTurns_6 ⟨Nat.le_of_ble_eq_true rfl, Nat.le_of_ble_eq_true rfl⟩) hS (fun q _ h => hFc q h) hFc (fun u t H1 locs ht hvm hw hB hz1 hk1 hS => ?_)
  obtain ⟨hP, hD⟩ := hB
  rw [ht] at hP
  replace hD := hD.weaken (fun _ _ _ h => hFc _ h)
  generalize H1 = H at hP hS ⊢
  refine W.widen (k := 1) (n := 768) (by omega) (by omega) ?_
  have hP : va_P D vwCl (pM cZ cI b 0 0 none (fun _ => false)) H := hP
  have hD : va_D A (pM cZ cI b 0 0 none (fun _ => false)) := hD
  refine lv_aload_n hx hb dX3_meanTurns_9 rfl (lv_at hl 0 rfl) ?_
  refine va_get (D := D) (ci := 3) (v := .int (nI 0)) (C := RX3) (T := TX3) (N := 20) hx hb hts hin3 hown hZ.1 hP 0 rfl rfl 17 (by decide) hf147 (fun _ h9 => h9) rfl dX3_meanTurns_10 ?_
  refine rv_ifneN (tgt := 20) hx hb (by omega) dX3_meanTurns_13 (by decide) (fun c13_1 => ?_) (fun c13_1 => ?_)
  · skip
    exact absurd rfl c13_1
  · skip
    refine lv_dconst0 hx hb dX3_meanTurns_16 ?_
    refine lv_goto (tgt := 31) hx hb dX3_meanTurns_17 (by decide) ?_
    have hP9 : va_P D vwCl (pM cZ cI b 0 0 none (fun _ => false)) H := by exact hP
    have hD9 : va_D A (pM cZ cI b 0 0 none (fun _ => false)) := by exact hD
    exact W.dret (v := FP.dconst0) hx hb hr (fun t ht hW => ⟨⟨_, (), rfl, rfl, by rw [ht]; exact hP9, hD9⟩, hS.F ht⟩) hS.2.2 dX3_meanTurns_31

set_option maxHeartbeats 4000000 in
set_option maxRecDepth 100000 in
theorem c_X3_digest (l : Launch) (D : va_G) (cZ cI : ClassId) (b : Nat → Nat) (t0 : Nat) (g0 : Option Nat) (sz : Nat)   : Met l yX3_digest wsX3_digest ({ frames := 3, cells := 2, slots := 1536, locals := 108 }) (WrP D cZ cI [.ref (b 0)] (pM cZ cI b t0 0 g0 (fun _ => false)) sz) (va_Ql (fun r (_ : Unit) => r = (((((((((((((2371 * 31 + ((nI 0).toInt64)) * 31 + ((nI 0).toInt64)) * 31 + ((nI 0).toInt64)) * 31 + 0) * 31 + 0) * 31 + (-1)) * 31 + (-1)) * 31 + ((nI 0).toInt64)) * 31 + (((-1 : Int32)).toInt64)) * 31 + ((nI 0).toInt64)) * 31 + (((-1 : Int32)).toInt64)) * 31 + (oN (if 0 = 0 then some 0 else none))) * 31 + (oN (if 1 = 0 then some 0 else none))) * 31 + (((-1 : Int32)).toInt64)) (fun (_ : Unit) t => va_P D vwCl (pM cZ cI b 0 0 none (fun _ => false)) t.heap ∧ va_D (va_A (pM cZ cI b t0 0 g0 (fun _ => false)) sz) (pM cZ cI b 0 0 none (fun _ => false))) (va_A (pM cZ cI b t0 0 g0 (fun _ => false)) sz)) 2 1536 (va_A (pM cZ cI b t0 0 g0 (fun _ => false)) sz) := by
  refine Met.ofW (cc := cX3_digest) (maxL := 4) (ret := (some .long)) (by decide) rfl ?_
  intro p e s m args below meth c s₁ B hml hv
  obtain ⟨rfl, hsz, hP, hZ, hD0⟩ := hv
  have hx := B.exec
  have hb := B.bytes
  have hr := B.returns
  have hts := atoms_spec (ws := wsX3_digest) B.pre
  have hown : s.vm.findClass RX3 = some m.cls := findClass_of_methodNamed B.named
  have hlocks := B.notSynchronized
  subst hsz
  have hD := hD0.self (sz := s.heap.size)
  generalize hAe : va_A (pM cZ cI b t0 0 g0 (fun _ => false)) s.heap.size = A at hD ⊢
  have hA : ∀ q : Nat, s.heap.size ≤ q → A q := fun q h => by rw [← hAe]; exact Or.inr h
  have hS : va_S A s.heap s.heap [] := va_S.rf
  have hP : va_P D vwCl (pM cZ cI b t0 0 g0 (fun _ => false)) s.heap := hP
  have hl := lv_entry ([.ref (b 0)]) (n := 4) (Nat.le_of_ble_eq_true rfl)
  rw [lg_entry_eq]
  generalize (lg_sl ([.ref (b 0)]) ++ List.replicate (4 - (lg_sl ([.ref (b 0)])).length) Slot.unset).toArray = ls at hl ⊢
  have hl : lv_has ls 4 [(0, .ref (b 0))] := hl
  have hin3 : ∀ w ∈ u_ws RX3 TX3 20, w ∈ wsX3_digest := by decide +kernel
  have hf9 := hts (.fieldLink RX3 9 "DoorChaseModel" "safe" "[Z") (by decide +kernel)
  have hf13 := hts (.fieldLink RX3 13 "DoorChaseModel" "cheese" "[I") (by decide +kernel)
  have hf29 := hts (.fieldLink RX3 29 "DoorChaseModel" "locked" "[Z") (by decide +kernel)
  have hf35 := hts (.fieldLink RX3 35 "DoorChaseModel" "thrown" "I") (by decide +kernel)
  have hf43 := hts (.fieldLink RX3 43 "DoorChaseModel" "rooms" "I") (by decide +kernel)
  have hf57 := hts (.fieldLink RX3 57 "DoorChaseModel" "doors" "I") (by decide +kernel)
  have hf85 := hts (.fieldLink RX3 85 "DoorChaseModel" "isOn" "Z") (by decide +kernel)
  have hf92 := hts (.fieldLink RX3 92 "DoorChaseModel" "turn" "I") (by decide +kernel)
  have hf95 := hts (.fieldLink RX3 95 "DoorChaseModel" "cat" "I") (by decide +kernel)
  have hf98 := hts (.fieldLink RX3 98 "DoorChaseModel" "mouse" "I") (by decide +kernel)
  have hf107 := hts (.fieldLink RX3 107 "DoorChaseModel" "isCaught" "Z") (by decide +kernel)
  have hf110 := hts (.fieldLink RX3 110 "DoorChaseModel" "eaten" "I") (by decide +kernel)
  refine lv_aload_n hx hb dX3_digest_0 rfl (lv_at hl 0 rfl) ?_
  refine lv_iconst (v := nI 0) hx hb dX3_digest_1 (by decide) ?_
  refine va_put (D := D) (ci := 3) (v := .int (nI 0)) (ty := .int) (C := RX3) (T := TX3) (N := 20) hx hb hts hin3 tyX3 tyX3_ok nmX3 hown hZ.1 hP hD hS 0 rfl rfl 0 (by decide) hf35 (fun _ h9 => h9) rfl (by decide +kernel) rfl rfl (Nat.le_of_ble_eq_true rfl) dX3_digest_2 (fun H locs hP hD hS => ?_)
  have hP : va_P D vwCl (pM cZ cI b 0 0 g0 (fun _ => false)) H := hP
  have hD : va_D A (pM cZ cI b 0 0 g0 (fun _ => false)) := hD
  refine lv_ldc2 (v := 2371) hx hb hown (hts (.constantLong RX3 172 2371) (by decide +kernel)) dX3_digest_5 ?_
  refine lv_aload_n hx hb dX3_digest_8 rfl (lv_at hl 0 rfl) ?_
  refine va_get (D := D) (ci := 3) (v := .int (nI 0)) (C := RX3) (T := TX3) (N := 20) hx hb hts hin3 hown hZ.1 hP 0 rfl rfl 10 (by decide) hf92 (fun _ h9 => h9) rfl dX3_digest_9 ?_
  refine lv_i2l (v := (nI 0).toInt64) hx hb dX3_digest_12 rfl ?_
  refine vp_callSl (va_runS (As := [.long 2371, .long ((nI 0).toInt64)]) (rest := []) ⟨hx, hb, hml, hown, hts⟩ (c_X3_add l D cZ cI   2371 ((nI 0).toInt64) ) (va_cwS 2 hts gX3_digest_X3_add rfl rfl rfl (by decide +kernel) ⟨Nat.le_of_ble_eq_true rfl, Nat.le_of_ble_eq_true rfl⟩) ⟨RdP_blind, RdP_start (hP.sub (ws' := []) [] rfl) hZ⟩ rfl rfl hl.1 rfl (lv_room (Nat.le_of_ble_eq_true rfl)) dX3_digest_13 ⟨Nat.le_of_ble_eq_true rfl, Nat.le_of_ble_eq_true rfl⟩).run (fun r_1 hr_2 => ?_)
  subst hr_2
  refine lv_aload_n hx hb dX3_digest_16 rfl (lv_at hl 0 rfl) ?_
  refine va_get (D := D) (ci := 3) (v := .int (nI 0)) (C := RX3) (T := TX3) (N := 20) hx hb hts hin3 hown hZ.1 hP 0 rfl rfl 1 (by decide) hf43 (fun _ h9 => h9) rfl dX3_digest_17 ?_
  refine lv_i2l (v := (nI 0).toInt64) hx hb dX3_digest_20 rfl ?_
  refine vp_callSl (va_runS (As := [.long (2371 * 31 + ((nI 0).toInt64)), .long ((nI 0).toInt64)]) (rest := []) ⟨hx, hb, hml, hown, hts⟩ (c_X3_add l D cZ cI   (2371 * 31 + ((nI 0).toInt64)) ((nI 0).toInt64) ) (va_cwS 2 hts gX3_digest_X3_add rfl rfl rfl (by decide +kernel) ⟨Nat.le_of_ble_eq_true rfl, Nat.le_of_ble_eq_true rfl⟩) ⟨RdP_blind, RdP_start (hP.sub (ws' := []) [] rfl) hZ⟩ rfl rfl hl.1 rfl (lv_room (Nat.le_of_ble_eq_true rfl)) dX3_digest_21 ⟨Nat.le_of_ble_eq_true rfl, Nat.le_of_ble_eq_true rfl⟩).run (fun r_3 hr_4 => ?_)
  subst hr_4
  refine lv_aload_n hx hb dX3_digest_24 rfl (lv_at hl 0 rfl) ?_
  refine va_get (D := D) (ci := 3) (v := .int (nI 0)) (C := RX3) (T := TX3) (N := 20) hx hb hts hin3 hown hZ.1 hP 0 rfl rfl 2 (by decide) hf57 (fun _ h9 => h9) rfl dX3_digest_25 ?_
  refine lv_i2l (v := (nI 0).toInt64) hx hb dX3_digest_28 rfl ?_
  refine vp_callSl (va_runS (As := [.long ((2371 * 31 + ((nI 0).toInt64)) * 31 + ((nI 0).toInt64)), .long ((nI 0).toInt64)]) (rest := []) ⟨hx, hb, hml, hown, hts⟩ (c_X3_add l D cZ cI   ((2371 * 31 + ((nI 0).toInt64)) * 31 + ((nI 0).toInt64)) ((nI 0).toInt64) ) (va_cwS 2 hts gX3_digest_X3_add rfl rfl rfl (by decide +kernel) ⟨Nat.le_of_ble_eq_true rfl, Nat.le_of_ble_eq_true rfl⟩) ⟨RdP_blind, RdP_start (hP.sub (ws' := []) [] rfl) hZ⟩ rfl rfl hl.1 rfl (lv_room (Nat.le_of_ble_eq_true rfl)) dX3_digest_29 ⟨Nat.le_of_ble_eq_true rfl, Nat.le_of_ble_eq_true rfl⟩).run (fun r_5 hr_6 => ?_)
  subst hr_6
  refine lv_aload_n hx hb dX3_digest_32 rfl (lv_at hl 0 rfl) ?_
  refine va_get (D := D) (ci := 3) (v := .int (bI false)) (C := RX3) (T := TX3) (N := 20) hx hb hts hin3 hown hZ.1 hP 0 rfl rfl 11 (by decide) hf85 (fun _ h9 => h9) rfl dX3_digest_33 ?_
  refine rv_ifeqB (tgt := 43) hx hb dX3_digest_36 (by decide) (fun c36_7 => ?_) (fun c36_7 => ?_)
  · skip
    refine lv_lconst (v := 0) hx hb dX3_digest_43 rfl ?_
    refine vp_callSl (va_runS (As := [.long (((2371 * 31 + ((nI 0).toInt64)) * 31 + ((nI 0).toInt64)) * 31 + ((nI 0).toInt64)), .long 0]) (rest := []) ⟨hx, hb, hml, hown, hts⟩ (c_X3_add l D cZ cI   (((2371 * 31 + ((nI 0).toInt64)) * 31 + ((nI 0).toInt64)) * 31 + ((nI 0).toInt64)) 0 ) (va_cwS 2 hts gX3_digest_X3_add rfl rfl rfl (by decide +kernel) ⟨Nat.le_of_ble_eq_true rfl, Nat.le_of_ble_eq_true rfl⟩) ⟨RdP_blind, RdP_start (hP.sub (ws' := []) [] rfl) hZ⟩ rfl rfl hl.1 rfl (lv_room (Nat.le_of_ble_eq_true rfl)) dX3_digest_44 ⟨Nat.le_of_ble_eq_true rfl, Nat.le_of_ble_eq_true rfl⟩).run (fun r_8 hr_9 => ?_)
    subst hr_9
    refine lv_aload_n hx hb dX3_digest_47 rfl (lv_at hl 0 rfl) ?_
    refine va_get (D := D) (ci := 3) (v := .int (bI false)) (C := RX3) (T := TX3) (N := 20) hx hb hts hin3 hown hZ.1 hP 0 rfl rfl 12 (by decide) hf107 (fun _ h9 => h9) rfl dX3_digest_48 ?_
    refine rv_ifeqB (tgt := 58) hx hb dX3_digest_51 (by decide) (fun c51_10 => ?_) (fun c51_10 => ?_)
    · skip
      refine lv_lconst (v := 0) hx hb dX3_digest_58 rfl ?_
      refine vp_callSl (va_runS (As := [.long ((((2371 * 31 + ((nI 0).toInt64)) * 31 + ((nI 0).toInt64)) * 31 + ((nI 0).toInt64)) * 31 + 0), .long 0]) (rest := []) ⟨hx, hb, hml, hown, hts⟩ (c_X3_add l D cZ cI   ((((2371 * 31 + ((nI 0).toInt64)) * 31 + ((nI 0).toInt64)) * 31 + ((nI 0).toInt64)) * 31 + 0) 0 ) (va_cwS 2 hts gX3_digest_X3_add rfl rfl rfl (by decide +kernel) ⟨Nat.le_of_ble_eq_true rfl, Nat.le_of_ble_eq_true rfl⟩) ⟨RdP_blind, RdP_start (hP.sub (ws' := []) [] rfl) hZ⟩ rfl rfl hl.1 rfl (lv_room (Nat.le_of_ble_eq_true rfl)) dX3_digest_59 ⟨Nat.le_of_ble_eq_true rfl, Nat.le_of_ble_eq_true rfl⟩).run (fun r_11 hr_12 => ?_)
      subst hr_12
      refine lv_lstore_n (lv' := [(1, .long (((((2371 * 31 + ((nI 0).toInt64)) * 31 + ((nI 0).toInt64)) * 31 + ((nI 0).toInt64)) * 31 + 0) * 31 + 0)), (0, .ref (b 0))]) hx hb dX3_digest_62 rfl hl (by decide) rfl (fun ls hl => ?_)
      refine lv_lload_n hx hb dX3_digest_63 rfl (lv_at hl 0 rfl) ?_
      refine lv_aload_n hx hb dX3_digest_64 rfl (lv_at hl 1 rfl) ?_
      refine va_get (D := D) (ci := 3) (v := .int (bI false)) (C := RX3) (T := TX3) (N := 20) hx hb hts hin3 hown hZ.1 hP 0 rfl rfl 11 (by decide) hf85 (fun _ h9 => h9) rfl dX3_digest_65 ?_
      refine rv_ifeqB (tgt := 79) hx hb dX3_digest_68 (by decide) (fun c68_13 => ?_) (fun c68_13 => ?_)
      · skip
        refine lv_ldc2 (v := (-1)) hx hb hown (hts (.constantLong RX3 178 (-1)) (by decide +kernel)) dX3_digest_79 ?_
        refine vp_callSl (va_runS (As := [.long (((((2371 * 31 + ((nI 0).toInt64)) * 31 + ((nI 0).toInt64)) * 31 + ((nI 0).toInt64)) * 31 + 0) * 31 + 0), .long (-1)]) (rest := []) ⟨hx, hb, hml, hown, hts⟩ (c_X3_add l D cZ cI   (((((2371 * 31 + ((nI 0).toInt64)) * 31 + ((nI 0).toInt64)) * 31 + ((nI 0).toInt64)) * 31 + 0) * 31 + 0) (-1) ) (va_cwS 2 hts gX3_digest_X3_add rfl rfl rfl (by decide +kernel) ⟨Nat.le_of_ble_eq_true rfl, Nat.le_of_ble_eq_true rfl⟩) ⟨RdP_blind, RdP_start (hP.sub (ws' := []) [] rfl) hZ⟩ rfl rfl hl.1 rfl (lv_room (Nat.le_of_ble_eq_true rfl)) dX3_digest_82 ⟨Nat.le_of_ble_eq_true rfl, Nat.le_of_ble_eq_true rfl⟩).run (fun r_14 hr_15 => ?_)
        subst hr_15
        refine lv_aload_n hx hb dX3_digest_85 rfl (lv_at hl 1 rfl) ?_
        refine va_get (D := D) (ci := 3) (v := .int (bI false)) (C := RX3) (T := TX3) (N := 20) hx hb hts hin3 hown hZ.1 hP 0 rfl rfl 11 (by decide) hf85 (fun _ h9 => h9) rfl dX3_digest_86 ?_
        refine rv_ifeqB (tgt := 100) hx hb dX3_digest_89 (by decide) (fun c89_16 => ?_) (fun c89_16 => ?_)
        · skip
          refine lv_ldc2 (v := (-1)) hx hb hown (hts (.constantLong RX3 178 (-1)) (by decide +kernel)) dX3_digest_100 ?_
          refine vp_callSl (va_runS (As := [.long ((((((2371 * 31 + ((nI 0).toInt64)) * 31 + ((nI 0).toInt64)) * 31 + ((nI 0).toInt64)) * 31 + 0) * 31 + 0) * 31 + (-1)), .long (-1)]) (rest := []) ⟨hx, hb, hml, hown, hts⟩ (c_X3_add l D cZ cI   ((((((2371 * 31 + ((nI 0).toInt64)) * 31 + ((nI 0).toInt64)) * 31 + ((nI 0).toInt64)) * 31 + 0) * 31 + 0) * 31 + (-1)) (-1) ) (va_cwS 2 hts gX3_digest_X3_add rfl rfl rfl (by decide +kernel) ⟨Nat.le_of_ble_eq_true rfl, Nat.le_of_ble_eq_true rfl⟩) ⟨RdP_blind, RdP_start (hP.sub (ws' := []) [] rfl) hZ⟩ rfl rfl hl.1 rfl (lv_room (Nat.le_of_ble_eq_true rfl)) dX3_digest_103 ⟨Nat.le_of_ble_eq_true rfl, Nat.le_of_ble_eq_true rfl⟩).run (fun r_17 hr_18 => ?_)
          subst hr_18
          refine lv_aload_n hx hb dX3_digest_106 rfl (lv_at hl 1 rfl) ?_
          refine va_get (D := D) (ci := 3) (v := .int (nI 0)) (C := RX3) (T := TX3) (N := 20) hx hb hts hin3 hown hZ.1 hP 0 rfl rfl 15 (by decide) hf110 (fun _ h9 => h9) rfl dX3_digest_107 ?_
          refine lv_i2l (v := (nI 0).toInt64) hx hb dX3_digest_110 rfl ?_
          refine vp_callSl (va_runS (As := [.long (((((((2371 * 31 + ((nI 0).toInt64)) * 31 + ((nI 0).toInt64)) * 31 + ((nI 0).toInt64)) * 31 + 0) * 31 + 0) * 31 + (-1)) * 31 + (-1)), .long ((nI 0).toInt64)]) (rest := []) ⟨hx, hb, hml, hown, hts⟩ (c_X3_add l D cZ cI   (((((((2371 * 31 + ((nI 0).toInt64)) * 31 + ((nI 0).toInt64)) * 31 + ((nI 0).toInt64)) * 31 + 0) * 31 + 0) * 31 + (-1)) * 31 + (-1)) ((nI 0).toInt64) ) (va_cwS 2 hts gX3_digest_X3_add rfl rfl rfl (by decide +kernel) ⟨Nat.le_of_ble_eq_true rfl, Nat.le_of_ble_eq_true rfl⟩) ⟨RdP_blind, RdP_start (hP.sub (ws' := []) [] rfl) hZ⟩ rfl rfl hl.1 rfl (lv_room (Nat.le_of_ble_eq_true rfl)) dX3_digest_111 ⟨Nat.le_of_ble_eq_true rfl, Nat.le_of_ble_eq_true rfl⟩).run (fun r_19 hr_20 => ?_)
          subst hr_20
          refine lv_lstore_n (lv' := [(1, .long ((((((((2371 * 31 + ((nI 0).toInt64)) * 31 + ((nI 0).toInt64)) * 31 + ((nI 0).toInt64)) * 31 + 0) * 31 + 0) * 31 + (-1)) * 31 + (-1)) * 31 + ((nI 0).toInt64))), (0, .ref (b 0))]) hx hb dX3_digest_114 rfl hl (by decide) rfl (fun ls hl => ?_)
          refine lv_lload_n hx hb dX3_digest_115 rfl (lv_at hl 0 rfl) ?_
          refine lv_aload_n hx hb dX3_digest_116 rfl (lv_at hl 1 rfl) ?_
          refine vp_callSi (va_runV (As := []) (rest := [.long ((((((((2371 * 31 + ((nI 0).toInt64)) * 31 + ((nI 0).toInt64)) * 31 + ((nI 0).toInt64)) * 31 + 0) * 31 + 0) * 31 + (-1)) * 31 + (-1)) * 31 + ((nI 0).toInt64))]) ⟨hx, hb, hml, hown, hts⟩ (c_X3_toCatch l D cZ cI b 0 g0   ) (cwV 0 hts gX3_digest_X3_toCatch rfl rfl rfl (by decide +kernel) ⟨Nat.le_of_ble_eq_true rfl, Nat.le_of_ble_eq_true rfl⟩) ⟨RdP_blind, va_recv hZ.1 hP (ci := 3) (q0 := 0) rfl rfl, RdP_start (hP.sub (ws' := pM cZ cI b 0 0 g0 (fun _ => false)) [0, 1, 2, 3, 4, 5, 6, 7, 8] rfl) hZ⟩ rfl rfl hl.1 rfl (lv_room (Nat.le_of_ble_eq_true rfl)) dX3_digest_117 ⟨Nat.le_of_ble_eq_true rfl, Nat.le_of_ble_eq_true rfl⟩).run (fun r_21 hr_22 => ?_)
          subst hr_22
          refine rv_top (show _ = (-1) from rfl) ?_
          refine lv_i2l (v := ((-1 : Int32)).toInt64) hx hb dX3_digest_120 rfl ?_
          refine vp_callSl (va_runS (As := [.long ((((((((2371 * 31 + ((nI 0).toInt64)) * 31 + ((nI 0).toInt64)) * 31 + ((nI 0).toInt64)) * 31 + 0) * 31 + 0) * 31 + (-1)) * 31 + (-1)) * 31 + ((nI 0).toInt64)), .long (((-1 : Int32)).toInt64)]) (rest := []) ⟨hx, hb, hml, hown, hts⟩ (c_X3_add l D cZ cI   ((((((((2371 * 31 + ((nI 0).toInt64)) * 31 + ((nI 0).toInt64)) * 31 + ((nI 0).toInt64)) * 31 + 0) * 31 + 0) * 31 + (-1)) * 31 + (-1)) * 31 + ((nI 0).toInt64)) (((-1 : Int32)).toInt64) ) (va_cwS 2 hts gX3_digest_X3_add rfl rfl rfl (by decide +kernel) ⟨Nat.le_of_ble_eq_true rfl, Nat.le_of_ble_eq_true rfl⟩) ⟨RdP_blind, RdP_start (hP.sub (ws' := []) [] rfl) hZ⟩ rfl rfl hl.1 rfl (lv_room (Nat.le_of_ble_eq_true rfl)) dX3_digest_121 ⟨Nat.le_of_ble_eq_true rfl, Nat.le_of_ble_eq_true rfl⟩).run (fun r_23 hr_24 => ?_)
          subst hr_24
          refine lv_aload_n hx hb dX3_digest_124 rfl (lv_at hl 1 rfl) ?_
          refine vp_callSi (va_runV (As := []) (rest := [.long (((((((((2371 * 31 + ((nI 0).toInt64)) * 31 + ((nI 0).toInt64)) * 31 + ((nI 0).toInt64)) * 31 + 0) * 31 + 0) * 31 + (-1)) * 31 + (-1)) * 31 + ((nI 0).toInt64)) * 31 + (((-1 : Int32)).toInt64))]) ⟨hx, hb, hml, hown, hts⟩ (c_X3_safeRooms l D cZ cI b 0 g0   ) (cwV 0 hts gX3_digest_X3_safeRooms rfl rfl rfl (by decide +kernel) ⟨Nat.le_of_ble_eq_true rfl, Nat.le_of_ble_eq_true rfl⟩) ⟨RdP_blind, va_recv hZ.1 hP (ci := 3) (q0 := 0) rfl rfl, RdP_start (hP.sub (ws' := pM cZ cI b 0 0 g0 (fun _ => false)) [0, 1, 2, 3, 4, 5, 6, 7, 8] rfl) hZ⟩ rfl rfl hl.1 rfl (lv_room (Nat.le_of_ble_eq_true rfl)) dX3_digest_125 ⟨Nat.le_of_ble_eq_true rfl, Nat.le_of_ble_eq_true rfl⟩).run (fun r_25 hr_26 => ?_)
          subst hr_26
          refine rv_top (show _ = nI 0 from rfl) ?_
          refine lv_i2l (v := (nI 0).toInt64) hx hb dX3_digest_128 rfl ?_
          refine vp_callSl (va_runS (As := [.long (((((((((2371 * 31 + ((nI 0).toInt64)) * 31 + ((nI 0).toInt64)) * 31 + ((nI 0).toInt64)) * 31 + 0) * 31 + 0) * 31 + (-1)) * 31 + (-1)) * 31 + ((nI 0).toInt64)) * 31 + (((-1 : Int32)).toInt64)), .long ((nI 0).toInt64)]) (rest := []) ⟨hx, hb, hml, hown, hts⟩ (c_X3_add l D cZ cI   (((((((((2371 * 31 + ((nI 0).toInt64)) * 31 + ((nI 0).toInt64)) * 31 + ((nI 0).toInt64)) * 31 + 0) * 31 + 0) * 31 + (-1)) * 31 + (-1)) * 31 + ((nI 0).toInt64)) * 31 + (((-1 : Int32)).toInt64)) ((nI 0).toInt64) ) (va_cwS 2 hts gX3_digest_X3_add rfl rfl rfl (by decide +kernel) ⟨Nat.le_of_ble_eq_true rfl, Nat.le_of_ble_eq_true rfl⟩) ⟨RdP_blind, RdP_start (hP.sub (ws' := []) [] rfl) hZ⟩ rfl rfl hl.1 rfl (lv_room (Nat.le_of_ble_eq_true rfl)) dX3_digest_129 ⟨Nat.le_of_ble_eq_true rfl, Nat.le_of_ble_eq_true rfl⟩).run (fun r_27 hr_28 => ?_)
          subst hr_28
          refine lv_aload_n hx hb dX3_digest_132 rfl (lv_at hl 1 rfl) ?_
          refine vp_callSi (va_runV (As := []) (rest := [.long ((((((((((2371 * 31 + ((nI 0).toInt64)) * 31 + ((nI 0).toInt64)) * 31 + ((nI 0).toInt64)) * 31 + 0) * 31 + 0) * 31 + (-1)) * 31 + (-1)) * 31 + ((nI 0).toInt64)) * 31 + (((-1 : Int32)).toInt64)) * 31 + ((nI 0).toInt64))]) ⟨hx, hb, hml, hown, hts⟩ (c_X3_best l D cZ cI b 0 g0   ) (cwV 0 hts gX3_digest_X3_best rfl rfl rfl (by decide +kernel) ⟨Nat.le_of_ble_eq_true rfl, Nat.le_of_ble_eq_true rfl⟩) ⟨RdP_blind, va_recv hZ.1 hP (ci := 3) (q0 := 0) rfl rfl, RdP_start (hP.sub (ws' := pM cZ cI b 0 0 g0 (fun _ => false)) [0, 1, 2, 3, 4, 5, 6, 7, 8] rfl) hZ⟩ rfl rfl hl.1 rfl (lv_room (Nat.le_of_ble_eq_true rfl)) dX3_digest_133 ⟨Nat.le_of_ble_eq_true rfl, Nat.le_of_ble_eq_true rfl⟩).run (fun r_29 hr_30 => ?_)
          subst hr_30
          refine rv_top (show _ = (-1) from rfl) ?_
          refine lv_i2l (v := ((-1 : Int32)).toInt64) hx hb dX3_digest_136 rfl ?_
          refine vp_callSl (va_runS (As := [.long ((((((((((2371 * 31 + ((nI 0).toInt64)) * 31 + ((nI 0).toInt64)) * 31 + ((nI 0).toInt64)) * 31 + 0) * 31 + 0) * 31 + (-1)) * 31 + (-1)) * 31 + ((nI 0).toInt64)) * 31 + (((-1 : Int32)).toInt64)) * 31 + ((nI 0).toInt64)), .long (((-1 : Int32)).toInt64)]) (rest := []) ⟨hx, hb, hml, hown, hts⟩ (c_X3_add l D cZ cI   ((((((((((2371 * 31 + ((nI 0).toInt64)) * 31 + ((nI 0).toInt64)) * 31 + ((nI 0).toInt64)) * 31 + 0) * 31 + 0) * 31 + (-1)) * 31 + (-1)) * 31 + ((nI 0).toInt64)) * 31 + (((-1 : Int32)).toInt64)) * 31 + ((nI 0).toInt64)) (((-1 : Int32)).toInt64) ) (va_cwS 2 hts gX3_digest_X3_add rfl rfl rfl (by decide +kernel) ⟨Nat.le_of_ble_eq_true rfl, Nat.le_of_ble_eq_true rfl⟩) ⟨RdP_blind, RdP_start (hP.sub (ws' := []) [] rfl) hZ⟩ rfl rfl hl.1 rfl (lv_room (Nat.le_of_ble_eq_true rfl)) dX3_digest_137 ⟨Nat.le_of_ble_eq_true rfl, Nat.le_of_ble_eq_true rfl⟩).run (fun r_31 hr_32 => ?_)
          subst hr_32
          refine lv_lstore_n (lv' := [(1, .long (((((((((((2371 * 31 + ((nI 0).toInt64)) * 31 + ((nI 0).toInt64)) * 31 + ((nI 0).toInt64)) * 31 + 0) * 31 + 0) * 31 + (-1)) * 31 + (-1)) * 31 + ((nI 0).toInt64)) * 31 + (((-1 : Int32)).toInt64)) * 31 + ((nI 0).toInt64)) * 31 + (((-1 : Int32)).toInt64))), (0, .ref (b 0))]) hx hb dX3_digest_140 rfl hl (by decide) rfl (fun ls hl => ?_)
          refine lv_lload_n hx hb dX3_digest_141 rfl (lv_at hl 0 rfl) ?_
          refine lv_aload_n hx hb dX3_digest_142 rfl (lv_at hl 1 rfl) ?_
          refine lv_iconst (v := nI 0) hx hb dX3_digest_143 (by decide) ?_
          have hFc := va_free (wc := pM cZ cI b 0 0 g0 (fun _ => false)) hD hS hA [0, 1, 2, 3, 4, 5, 6, 7, 8] rfl
          refine va_calli (va_runV (As := [.int (nI 0)]) (rest := [.long (((((((((((2371 * 31 + ((nI 0).toInt64)) * 31 + ((nI 0).toInt64)) * 31 + ((nI 0).toInt64)) * 31 + 0) * 31 + 0) * 31 + (-1)) * 31 + (-1)) * 31 + ((nI 0).toInt64)) * 31 + (((-1 : Int32)).toInt64)) * 31 + ((nI 0).toInt64)) * 31 + (((-1 : Int32)).toInt64))]) ⟨hx, hb, hml, hown, hts⟩ (c_X3_counted l D cZ cI b 0 g0 H.size 0 (by first | assumption | omega)) (cwV 1 hts gX3_digest_X3_counted rfl rfl rfl (by decide +kernel) ⟨Nat.le_of_ble_eq_true rfl, Nat.le_of_ble_eq_true rfl⟩) ⟨WrP_blind, va_recv hZ.1 hP (ci := 3) (q0 := 0) rfl rfl, WrP_start hP hD hZ⟩ rfl rfl hl.1 rfl (lv_room (Nat.le_of_ble_eq_true rfl)) dX3_digest_144 ⟨Nat.le_of_ble_eq_true rfl, Nat.le_of_ble_eq_true rfl⟩) hS (fun q _ h => hFc q h) hFc (fun r9 u t H1 locs ht hvm hw hB hz1 hk1 hS => ?_)
          obtain ⟨hP, hD⟩ := hB
          rw [ht] at hP
          replace hD := hD.weaken (fun _ _ _ h => hFc _ h)
          generalize H1 = H at hP hS ⊢
          refine W.widen (k := 1) (n := 768) (by omega) (by omega) ?_
          have hP : va_P D vwCl (pM cZ cI b 0 0 none (fun _ => false)) H := hP
          have hD : va_D A (pM cZ cI b 0 0 none (fun _ => false)) := hD
          subst hw
          refine rv_top (show _ = iO (if 0 = 0 then some 0 else none) from rfl) ?_
          refine lv_i2l (v := oN (if 0 = 0 then some 0 else none)) hx hb dX3_digest_147 rfl ?_
          refine vp_callSl (va_runS (As := [.long (((((((((((2371 * 31 + ((nI 0).toInt64)) * 31 + ((nI 0).toInt64)) * 31 + ((nI 0).toInt64)) * 31 + 0) * 31 + 0) * 31 + (-1)) * 31 + (-1)) * 31 + ((nI 0).toInt64)) * 31 + (((-1 : Int32)).toInt64)) * 31 + ((nI 0).toInt64)) * 31 + (((-1 : Int32)).toInt64)), .long (oN (if 0 = 0 then some 0 else none))]) (rest := []) ⟨hx, hb, hml, hown, hts⟩ (c_X3_add l D cZ cI   (((((((((((2371 * 31 + ((nI 0).toInt64)) * 31 + ((nI 0).toInt64)) * 31 + ((nI 0).toInt64)) * 31 + 0) * 31 + 0) * 31 + (-1)) * 31 + (-1)) * 31 + ((nI 0).toInt64)) * 31 + (((-1 : Int32)).toInt64)) * 31 + ((nI 0).toInt64)) * 31 + (((-1 : Int32)).toInt64)) (oN (if 0 = 0 then some 0 else none)) ) (va_cwS 2 hts gX3_digest_X3_add rfl rfl rfl (by decide +kernel) ⟨Nat.le_of_ble_eq_true rfl, Nat.le_of_ble_eq_true rfl⟩) ⟨RdP_blind, RdP_start (hP.sub (ws' := []) [] rfl) hZ⟩ rfl rfl hl.1 rfl (lv_room (Nat.le_of_ble_eq_true rfl)) dX3_digest_148 ⟨Nat.le_of_ble_eq_true rfl, Nat.le_of_ble_eq_true rfl⟩).run (fun r_33 hr_34 => ?_)
          subst hr_34
          refine lv_aload_n hx hb dX3_digest_151 rfl (lv_at hl 1 rfl) ?_
          refine lv_iconst (v := nI 1) hx hb dX3_digest_152 (by decide) ?_
          have hFc := va_free (wc := pM cZ cI b 0 0 none (fun _ => false)) hD hS hA [0, 1, 2, 3, 4, 5, 6, 7, 8] rfl
          refine va_calli (va_runV (As := [.int (nI 1)]) (rest := [.long ((((((((((((2371 * 31 + ((nI 0).toInt64)) * 31 + ((nI 0).toInt64)) * 31 + ((nI 0).toInt64)) * 31 + 0) * 31 + 0) * 31 + (-1)) * 31 + (-1)) * 31 + ((nI 0).toInt64)) * 31 + (((-1 : Int32)).toInt64)) * 31 + ((nI 0).toInt64)) * 31 + (((-1 : Int32)).toInt64)) * 31 + (oN (if 0 = 0 then some 0 else none)))]) ⟨hx, hb, hml, hown, hts⟩ (c_X3_counted l D cZ cI b 0 none H.size 1 (by first | assumption | omega)) (cwV 1 hts gX3_digest_X3_counted rfl rfl rfl (by decide +kernel) ⟨Nat.le_of_ble_eq_true rfl, Nat.le_of_ble_eq_true rfl⟩) ⟨WrP_blind, va_recv hZ.1 hP (ci := 3) (q0 := 0) rfl rfl, WrP_start hP hD hZ⟩ rfl rfl hl.1 rfl (lv_room (Nat.le_of_ble_eq_true rfl)) dX3_digest_153 ⟨Nat.le_of_ble_eq_true rfl, Nat.le_of_ble_eq_true rfl⟩) hS (fun q _ h => hFc q h) hFc (fun r9 u t H1 locs ht hvm hw hB hz1 hk1 hS => ?_)
          obtain ⟨hP, hD⟩ := hB
          rw [ht] at hP
          replace hD := hD.weaken (fun _ _ _ h => hFc _ h)
          generalize H1 = H at hP hS ⊢
          refine W.widen (k := 2) (n := 1536) (by omega) (by omega) ?_
          have hP : va_P D vwCl (pM cZ cI b 0 0 none (fun _ => false)) H := hP
          have hD : va_D A (pM cZ cI b 0 0 none (fun _ => false)) := hD
          subst hw
          refine rv_top (show _ = iO (if 1 = 0 then some 0 else none) from rfl) ?_
          refine lv_i2l (v := oN (if 1 = 0 then some 0 else none)) hx hb dX3_digest_156 rfl ?_
          refine vp_callSl (va_runS (As := [.long ((((((((((((2371 * 31 + ((nI 0).toInt64)) * 31 + ((nI 0).toInt64)) * 31 + ((nI 0).toInt64)) * 31 + 0) * 31 + 0) * 31 + (-1)) * 31 + (-1)) * 31 + ((nI 0).toInt64)) * 31 + (((-1 : Int32)).toInt64)) * 31 + ((nI 0).toInt64)) * 31 + (((-1 : Int32)).toInt64)) * 31 + (oN (if 0 = 0 then some 0 else none))), .long (oN (if 1 = 0 then some 0 else none))]) (rest := []) ⟨hx, hb, hml, hown, hts⟩ (c_X3_add l D cZ cI   ((((((((((((2371 * 31 + ((nI 0).toInt64)) * 31 + ((nI 0).toInt64)) * 31 + ((nI 0).toInt64)) * 31 + 0) * 31 + 0) * 31 + (-1)) * 31 + (-1)) * 31 + ((nI 0).toInt64)) * 31 + (((-1 : Int32)).toInt64)) * 31 + ((nI 0).toInt64)) * 31 + (((-1 : Int32)).toInt64)) * 31 + (oN (if 0 = 0 then some 0 else none))) (oN (if 1 = 0 then some 0 else none)) ) (va_cwS 2 hts gX3_digest_X3_add rfl rfl rfl (by decide +kernel) ⟨Nat.le_of_ble_eq_true rfl, Nat.le_of_ble_eq_true rfl⟩) ⟨RdP_blind, RdP_start (hP.sub (ws' := []) [] rfl) hZ⟩ rfl rfl hl.1 rfl (lv_room (Nat.le_of_ble_eq_true rfl)) dX3_digest_157 ⟨Nat.le_of_ble_eq_true rfl, Nat.le_of_ble_eq_true rfl⟩).run (fun r_35 hr_36 => ?_)
          subst hr_36
          refine lv_aload_n hx hb dX3_digest_160 rfl (lv_at hl 1 rfl) ?_
          refine vp_callSi (va_runV (As := []) (rest := [.long (((((((((((((2371 * 31 + ((nI 0).toInt64)) * 31 + ((nI 0).toInt64)) * 31 + ((nI 0).toInt64)) * 31 + 0) * 31 + 0) * 31 + (-1)) * 31 + (-1)) * 31 + ((nI 0).toInt64)) * 31 + (((-1 : Int32)).toInt64)) * 31 + ((nI 0).toInt64)) * 31 + (((-1 : Int32)).toInt64)) * 31 + (oN (if 0 = 0 then some 0 else none))) * 31 + (oN (if 1 = 0 then some 0 else none)))]) ⟨hx, hb, hml, hown, hts⟩ (c_X3_doorToLock l D cZ cI b 0 none   ) (cwV 0 hts gX3_digest_X3_doorToLock rfl rfl rfl (by decide +kernel) ⟨Nat.le_of_ble_eq_true rfl, Nat.le_of_ble_eq_true rfl⟩) ⟨RdP_blind, va_recv hZ.1 hP (ci := 3) (q0 := 0) rfl rfl, RdP_start (hP.sub (ws' := pM cZ cI b 0 0 none (fun _ => false)) [0, 1, 2, 3, 4, 5, 6, 7, 8] rfl) hZ⟩ rfl rfl hl.1 rfl (lv_room (Nat.le_of_ble_eq_true rfl)) dX3_digest_161 ⟨Nat.le_of_ble_eq_true rfl, Nat.le_of_ble_eq_true rfl⟩).run (fun r_37 hr_38 => ?_)
          subst hr_38
          refine rv_top (show _ = (-1) from rfl) ?_
          refine lv_i2l (v := ((-1 : Int32)).toInt64) hx hb dX3_digest_164 rfl ?_
          refine vp_callSl (va_runS (As := [.long (((((((((((((2371 * 31 + ((nI 0).toInt64)) * 31 + ((nI 0).toInt64)) * 31 + ((nI 0).toInt64)) * 31 + 0) * 31 + 0) * 31 + (-1)) * 31 + (-1)) * 31 + ((nI 0).toInt64)) * 31 + (((-1 : Int32)).toInt64)) * 31 + ((nI 0).toInt64)) * 31 + (((-1 : Int32)).toInt64)) * 31 + (oN (if 0 = 0 then some 0 else none))) * 31 + (oN (if 1 = 0 then some 0 else none))), .long (((-1 : Int32)).toInt64)]) (rest := []) ⟨hx, hb, hml, hown, hts⟩ (c_X3_add l D cZ cI   (((((((((((((2371 * 31 + ((nI 0).toInt64)) * 31 + ((nI 0).toInt64)) * 31 + ((nI 0).toInt64)) * 31 + 0) * 31 + 0) * 31 + (-1)) * 31 + (-1)) * 31 + ((nI 0).toInt64)) * 31 + (((-1 : Int32)).toInt64)) * 31 + ((nI 0).toInt64)) * 31 + (((-1 : Int32)).toInt64)) * 31 + (oN (if 0 = 0 then some 0 else none))) * 31 + (oN (if 1 = 0 then some 0 else none))) (((-1 : Int32)).toInt64) ) (va_cwS 2 hts gX3_digest_X3_add rfl rfl rfl (by decide +kernel) ⟨Nat.le_of_ble_eq_true rfl, Nat.le_of_ble_eq_true rfl⟩) ⟨RdP_blind, RdP_start (hP.sub (ws' := []) [] rfl) hZ⟩ rfl rfl hl.1 rfl (lv_room (Nat.le_of_ble_eq_true rfl)) dX3_digest_165 ⟨Nat.le_of_ble_eq_true rfl, Nat.le_of_ble_eq_true rfl⟩).run (fun r_39 hr_40 => ?_)
          subst hr_40
          refine lv_lstore_n (lv' := [(1, .long ((((((((((((((2371 * 31 + ((nI 0).toInt64)) * 31 + ((nI 0).toInt64)) * 31 + ((nI 0).toInt64)) * 31 + 0) * 31 + 0) * 31 + (-1)) * 31 + (-1)) * 31 + ((nI 0).toInt64)) * 31 + (((-1 : Int32)).toInt64)) * 31 + ((nI 0).toInt64)) * 31 + (((-1 : Int32)).toInt64)) * 31 + (oN (if 0 = 0 then some 0 else none))) * 31 + (oN (if 1 = 0 then some 0 else none))) * 31 + (((-1 : Int32)).toInt64))), (0, .ref (b 0))]) hx hb dX3_digest_168 rfl hl (by decide) rfl (fun ls hl => ?_)
          refine lv_iconst (v := nI 0) hx hb dX3_digest_169 (by decide) ?_
          refine lv_istore_n (lv' := [(3, .int (nI 0)), (1, .long ((((((((((((((2371 * 31 + ((nI 0).toInt64)) * 31 + ((nI 0).toInt64)) * 31 + ((nI 0).toInt64)) * 31 + 0) * 31 + 0) * 31 + (-1)) * 31 + (-1)) * 31 + ((nI 0).toInt64)) * 31 + (((-1 : Int32)).toInt64)) * 31 + ((nI 0).toInt64)) * 31 + (((-1 : Int32)).toInt64)) * 31 + (oN (if 0 = 0 then some 0 else none))) * 31 + (oN (if 1 = 0 then some 0 else none))) * 31 + (((-1 : Int32)).toInt64))), (0, .ref (b 0))]) hx hb dX3_digest_170 rfl hl (by decide) rfl (fun ls hl => ?_)
          refine lv_iload_n hx hb dX3_digest_171 rfl (lv_at hl 0 rfl) ?_
          refine lv_aload_n hx hb dX3_digest_172 rfl (lv_at hl 2 rfl) ?_
          refine va_get (D := D) (ci := 3) (v := .int (nI 0)) (C := RX3) (T := TX3) (N := 20) hx hb hts hin3 hown hZ.1 hP 0 rfl rfl 1 (by decide) hf43 (fun _ h9 => h9) rfl dX3_digest_173 ?_
          refine rv_ge (tgt := 233) hx hb (by omega) (by omega) dX3_digest_176 (by decide) (fun c176_41 => ?_) (fun c176_41 => ?_)
          · skip
            refine lv_iconst (v := nI 0) hx hb dX3_digest_233 (by decide) ?_
            refine lv_istore_n (lv' := [(3, .int (nI 0)), (1, .long ((((((((((((((2371 * 31 + ((nI 0).toInt64)) * 31 + ((nI 0).toInt64)) * 31 + ((nI 0).toInt64)) * 31 + 0) * 31 + 0) * 31 + (-1)) * 31 + (-1)) * 31 + ((nI 0).toInt64)) * 31 + (((-1 : Int32)).toInt64)) * 31 + ((nI 0).toInt64)) * 31 + (((-1 : Int32)).toInt64)) * 31 + (oN (if 0 = 0 then some 0 else none))) * 31 + (oN (if 1 = 0 then some 0 else none))) * 31 + (((-1 : Int32)).toInt64))), (0, .ref (b 0))]) hx hb dX3_digest_234 rfl hl (by decide) rfl (fun ls hl => ?_)
            refine lv_iload_n hx hb dX3_digest_235 rfl (lv_at hl 0 rfl) ?_
            refine lv_aload_n hx hb dX3_digest_236 rfl (lv_at hl 2 rfl) ?_
            refine va_get (D := D) (ci := 3) (v := .int (nI 0)) (C := RX3) (T := TX3) (N := 20) hx hb hts hin3 hown hZ.1 hP 0 rfl rfl 2 (by decide) hf57 (fun _ h9 => h9) rfl dX3_digest_237 ?_
            refine rv_ge (tgt := 297) hx hb (by omega) (by omega) dX3_digest_240 (by decide) (fun c240_42 => ?_) (fun c240_42 => ?_)
            · skip
              refine lv_lload_n hx hb dX3_digest_297 rfl (lv_at hl 1 rfl) ?_
              have hP9 : va_P D vwCl (pM cZ cI b 0 0 none (fun _ => false)) H := by exact hP
              have hD9 : va_D A (pM cZ cI b 0 0 none (fun _ => false)) := by exact hD
              exact W.lret (v := (((((((((((((2371 * 31 + ((nI 0).toInt64)) * 31 + ((nI 0).toInt64)) * 31 + ((nI 0).toInt64)) * 31 + 0) * 31 + 0) * 31 + (-1)) * 31 + (-1)) * 31 + ((nI 0).toInt64)) * 31 + (((-1 : Int32)).toInt64)) * 31 + ((nI 0).toInt64)) * 31 + (((-1 : Int32)).toInt64)) * 31 + (oN (if 0 = 0 then some 0 else none))) * 31 + (oN (if 1 = 0 then some 0 else none))) * 31 + (((-1 : Int32)).toInt64)) hx hb hr (fun t ht hW => ⟨⟨_, (), rfl, rfl, by rw [ht]; exact hP9, hD9⟩, hS.F ht⟩) hS.2.2 dX3_digest_298
            · skip
              exact absurd c240_42 (by decide)
          · skip
            exact absurd c176_41 (by decide)
        · skip
          exact Bool.noConfusion c89_16
      · skip
        exact Bool.noConfusion c68_13
    · skip
      exact Bool.noConfusion c51_10
  · skip
    exact Bool.noConfusion c36_7

