set_option maxHeartbeats 4000000 in
set_option maxRecDepth 100000 in
theorem c_X1_keepSure (l : Launch) (D : va_G) (cZ cI : ClassId) (o : Nat → Nat) (q : Nat → Nat) (ω : OS) (σ : HS) (sz : Nat) (ph : Nat) (x : Nat) (P : Nat → Bool) (tn : Nat) (hp : ph < 12) (hx8 : x < 8) : Met l yX1_keepSure wsX1_keepSure ({ frames := 1, cells := 0, slots := 0, locals := 21 }) (WrP D cZ cI [.ref (o 0), .int (nI ph), .int (nI x), .int (sb P), .int (nI tn)] (pO cZ cI o q ω σ) sz) (WrV D (pO cZ cI o q (oW ω, keepU (oU ω) ph x P, oB ω, kT ph x P tn 8 0 (oT ω)) σ) (va_A (pO cZ cI o q ω σ) sz)) 0 0 (va_A (pO cZ cI o q ω σ) sz) := by
  refine Met.ofW (cc := cX1_keepSure) (maxL := 7) (ret := none) (by decide) rfl ?_
  intro p e s m args below meth c s₁ B hml hv
  obtain ⟨rfl, hsz, hP, hZ, hD0⟩ := hv
  have hx := B.exec
  have hb := B.bytes
  have hr := B.returns
  have hts := atoms_spec (ws := wsX1_keepSure) B.pre
  have hown : s.vm.findClass RX1 = some m.cls := findClass_of_methodNamed B.named
  have hlocks := B.notSynchronized
  subst hsz
  have hD := hD0.self (sz := s.heap.size)
  generalize hAe : va_A (pO cZ cI o q ω σ) s.heap.size = A at hD ⊢
  have hA : ∀ q : Nat, s.heap.size ≤ q → A q := fun q h => by rw [← hAe]; exact Or.inr h
  have hS : va_S A s.heap s.heap [] := va_S.rf
  have hP : va_P D vwCl (pO cZ cI o q ω σ) s.heap := hP
  have hl := lv_entry ([.ref (o 0), .int (nI ph), .int (nI x), .int (sb P), .int (nI tn)]) (n := 7) (Nat.le_of_ble_eq_true rfl)
  rw [lg_entry_eq]
  generalize (lg_sl ([.ref (o 0), .int (nI ph), .int (nI x), .int (sb P), .int (nI tn)]) ++ List.replicate (7 - (lg_sl ([.ref (o 0), .int (nI ph), .int (nI x), .int (sb P), .int (nI tn)])).length) Slot.unset).toArray = ls at hl ⊢
  have hl : lv_has ls 7 [(0, .ref (o 0)), (1, .int (nI ph)), (2, .int (nI x)), (3, .int (sb P)), (4, .int (nI tn))] := hl
  have hin1 : ∀ w ∈ u_ws RX1 TX1 4, w ∈ wsX1_keepSure := by decide +kernel
  have hf15 := hts (.fieldLink RX1 15 "DoorChase$Outlook" "sure" "[I") (by decide +kernel)
  have hf21 := hts (.fieldLink RX1 21 "DoorChase$Outlook" "turnsOfState" "[I") (by decide +kernel)
  refine lv_iload_n hx hb dX1_keepSure_0 rfl (lv_at hl 1 rfl) ?_
  refine lv_iload_n hx hb dX1_keepSure_1 rfl (lv_at hl 2 rfl) ?_
  refine vp_callSi (va_runS (As := [.int (nI ph), .int (nI x)]) (rest := []) ⟨hx, hb, hml, hown, hts⟩ (c_X1_placeOf l D cZ cI   ph x ) (va_cwS 2 hts gX1_keepSure_X1_placeOf rfl rfl rfl (by decide +kernel) ⟨Nat.le_of_ble_eq_true rfl, Nat.le_of_ble_eq_true rfl⟩) ⟨RdP_blind, RdP_start (hP.sub (ws' := []) [] rfl) hZ⟩ rfl rfl hl.1 rfl (lv_room (Nat.le_of_ble_eq_true rfl)) dX1_keepSure_2 ⟨Nat.le_of_ble_eq_true rfl, Nat.le_of_ble_eq_true rfl⟩).run (fun r_1 hr_2 => ?_)
  subst hr_2
  refine rv_top (show _ = nI (ph * 8 + x) from rfl) ?_
  refine lv_istore (lv' := [(5, .int (nI (ph * 8 + x))), (0, .ref (o 0)), (1, .int (nI ph)), (2, .int (nI x)), (3, .int (sb P)), (4, .int (nI tn))]) hx hb dX1_keepSure_5 hl (by decide) rfl (fun ls hl => ?_)
  refine lv_aload_n hx hb dX1_keepSure_7 rfl (lv_at hl 1 rfl) ?_
  refine va_get (D := D) (ci := 1) (v := .ref (o 2)) (C := RX1) (T := TX1) (N := 4) hx hb hts hin1 hown hZ.1 hP 0 rfl rfl 1 (by decide) hf15 (fun _ h9 => h9) rfl dX1_keepSure_8 ?_
  refine lv_iload hx hb dX1_keepSure_11 (lv_at hl 0 rfl) ?_
  refine lv_dup2_11 hx hb dX1_keepSure_13 rfl rfl ?_
  refine rv_iald hx hb hZ.1 hP 2 1 rfl rfl (r := ph * 8 + x) (by omega) (by decide) (v := sb ((oU ω) ph x)) (encW_at _ ph (by omega)) dX1_keepSure_14 ?_
  refine lv_iload_n hx hb dX1_keepSure_15 rfl (lv_at hl 4 rfl) ?_
  refine rv_orS hx hb dX1_keepSure_16 ?_
  refine rv_iast hx hb hZ.1 hP hD hS 2 1 rfl rfl (r := ph * 8 + x) (by omega) (by decide) (encW_up _ ph (by omega) _) dX1_keepSure_17 (fun H locs hP hD hS => ?_)
  have hP : va_P D vwCl (pO cZ cI o q (oW ω, up3 (oU ω) ph x (fun i => ((oU ω) ph x) i || P i), oB ω, oT ω) σ) H := hP
  have hD : va_D A (pO cZ cI o q (oW ω, up3 (oU ω) ph x (fun i => ((oU ω) ph x) i || P i), oB ω, oT ω) σ) := hD
  refine lv_iconst (v := nI 0) hx hb dX1_keepSure_18 (by decide) ?_
  refine lv_istore (lv' := [(6, .int (nI 0)), (5, .int (nI (ph * 8 + x))), (0, .ref (o 0)), (1, .int (nI ph)), (2, .int (nI x)), (3, .int (sb P)), (4, .int (nI tn))]) hx hb dX1_keepSure_19 hl (by decide) rfl (fun ls hl => ?_)
  have loop21 : ∀ (n : Nat) (r : Nat) (T : Nat → Nat → Nat → Option Nat), 8 + 1 ≤ r + n → (r ≤ 8) → (kT ph x P tn (8 - r) r T = kT ph x P tn 8 0 (oT ω)) → ∀ (H : Heap) (locs : List Loc), va_P D vwCl (pO cZ cI o q (oW ω, up3 (oU ω) ph x (fun i => ((oU ω) ph x) i || P i), oB ω, T) σ) H → va_D A (pO cZ cI o q (oW ω, up3 (oU ω) ph x (fun i => ((oU ω) ph x) i || P i), oB ω, T) σ) → va_S A s.heap H locs → ∀ (ls : Array Slot), lv_has ls 7 [(0, .ref (o 0)), (1, .int (nI ph)), (2, .int (nI x)), (3, .int (sb P)), (4, .int (nI tn)), (5, .int (nI (ph * 8 + x))), (6, .int (nI r))] → W p l e (headSpec wsX1_keepSure ({ frames := 1, cells := 0, slots := 0, locals := 21 })).room s m ([.ref (o 0), .int (nI ph), .int (nI x), .int (sb P), .int (nI tn)] : List Value).toArray below meth c H locs 0 0 (MQ below (WrV D (pO cZ cI o q (oW ω, keepU (oU ω) ph x P, oB ω, kT ph x P tn 8 0 (oT ω)) σ) A) ([.ref (o 0), .int (nI ph), .int (nI x), .int (sb P), .int (nI tn)] : List Value).toArray s 0 0 A) (F0 m 21 ls []) := by
    intro n
    induction n with
    | zero =>
      intro r T hmeas hr8 hE H locs hP hD hS ls hl
      exact absurd hmeas (by omega)
    | succ n ih21 =>
      intro r T hmeas hr8 hE H locs hP hD hS ls hl
      refine lv_iload hx hb dX1_keepSure_21 (lv_at hl 6 rfl) ?_
      refine lv_bipush (v := nI 8) hx hb dX1_keepSure_23 (by decide) ?_
      refine rv_ge (tgt := 58) hx hb (by omega) (by omega) dX1_keepSure_25 (by decide) (fun c25_3 => ?_) (fun c25_3 => ?_)
      · skip
        have hP9 : va_P D vwCl (pO cZ cI o q (oW ω, keepU (oU ω) ph x P, oB ω, kT ph x P tn 8 0 (oT ω)) σ) H := by (rw [show kT ph x P tn 8 0 (oT ω) = T from by rw [← hE, show 8 - r = 0 by omega]; rfl]; exact hP)
        have hD9 : va_D A (pO cZ cI o q (oW ω, keepU (oU ω) ph x P, oB ω, kT ph x P tn 8 0 (oT ω)) σ) := by (rw [show kT ph x P tn 8 0 (oT ω) = T from by rw [← hE, show 8 - r = 0 by omega]; rfl]; exact hD)
        exact W.vret hx hb hr (fun t ht hW => ⟨⟨(), rfl, trivial, by rw [ht]; exact hP9, hD9⟩, hS.F ht⟩) hS.2.2 dX1_keepSure_58
      · skip
        refine lv_iload_n hx hb dX1_keepSure_28 rfl (lv_at hl 3 rfl) ?_
        refine lv_iload hx hb dX1_keepSure_29 (lv_at hl 6 rfl) ?_
        refine vp_callSi (va_runSN (As := [.int (sb P), .int (nI r)]) (rest := []) ⟨hx, hb, hml, hown, hts⟩ (c_X2_holds l D cZ cI   P r (by first | assumption | omega)) ⟨va_cnB 2 hts gX1_keepSure_X2_holds_n28 rfl rfl rfl hZ.2.2.2.1 (hts (.initialized RX2) (by decide +kernel)) (by decide +kernel) ⟨Nat.le_of_ble_eq_true rfl, Nat.le_of_ble_eq_true rfl⟩, hts (.static yX2_holds) (by decide +kernel), trivial⟩ ⟨RdP_blind, RdP_start (hP.sub (ws' := []) [] rfl) hZ⟩ rfl rfl hl.1 rfl (lv_room (Nat.le_of_ble_eq_true rfl)) dX1_keepSure_31 ⟨Nat.le_of_ble_eq_true rfl, Nat.le_of_ble_eq_true rfl⟩).run (fun r_4 hr_5 => ?_)
        subst hr_5
        refine rv_top (show _ = bI (P r) from rfl) ?_
        refine rv_ifeqB (tgt := 52) hx hb dX1_keepSure_34 (by decide) (fun c34_6 => ?_) (fun c34_6 => ?_)
        · skip
          refine lv_iinc (v := nI (r + 1)) (lv' := [(6, .int (nI (r + 1))), (0, .ref (o 0)), (1, .int (nI ph)), (2, .int (nI x)), (3, .int (sb P)), (4, .int (nI tn)), (5, .int (nI (ph * 8 + x)))]) hx hb dX1_keepSure_52 hl (k := 6) rfl (nI_add r 1) (by decide) rfl (fun ls hl => ?_)
          refine lv_goto (tgt := 21) hx hb dX1_keepSure_55 (by decide) ?_
          exact ih21 (r + 1) T (by omega) (by omega) (by rw [← hE, show 8 - r = (8 - (r + 1)) + 1 by omega, kT]; first | rw [if_pos (by assumption)] | rw [if_neg (by simp [c25_3, c34_6]; done)]) _ _ hP hD hS ls (lv_sub hl [1, 2, 3, 4, 5, 6, 0] rfl)
        · skip
          refine lv_aload_n hx hb dX1_keepSure_37 rfl (lv_at hl 0 rfl) ?_
          refine va_get (D := D) (ci := 1) (v := .ref (o 4)) (C := RX1) (T := TX1) (N := 4) hx hb hts hin1 hown hZ.1 hP 0 rfl rfl 3 (by decide) hf21 (fun _ h9 => h9) rfl dX1_keepSure_38 ?_
          refine lv_iload hx hb dX1_keepSure_41 (lv_at hl 5 rfl) ?_
          refine lv_bipush (v := nI 8) hx hb dX1_keepSure_43 (by decide) ?_
          refine rv_mul hx hb dX1_keepSure_45 ?_
          refine lv_iload hx hb dX1_keepSure_46 (lv_at hl 6 rfl) ?_
          refine rv_add hx hb dX1_keepSure_48 ?_
          refine lv_iload hx hb dX1_keepSure_49 (lv_at hl 4 rfl) ?_
          refine rv_top (iO_some tn).symm ?_
          refine rv_iast hx hb hZ.1 hP hD hS 4 1 rfl rfl (r := (ph * 8 + x) * 8 + r) (by omega) (by decide) (encT_up _ ph (by omega) (by omega) _) dX1_keepSure_51 (fun H locs hP hD hS => ?_)
          have hP : va_P D vwCl (pO cZ cI o q (oW ω, up3 (oU ω) ph x (fun i => ((oU ω) ph x) i || P i), oB ω, up4 T ph x r (some tn)) σ) H := hP
          have hD : va_D A (pO cZ cI o q (oW ω, up3 (oU ω) ph x (fun i => ((oU ω) ph x) i || P i), oB ω, up4 T ph x r (some tn)) σ) := hD
          refine lv_iinc (v := nI (r + 1)) (lv' := [(6, .int (nI (r + 1))), (0, .ref (o 0)), (1, .int (nI ph)), (2, .int (nI x)), (3, .int (sb P)), (4, .int (nI tn)), (5, .int (nI (ph * 8 + x)))]) hx hb dX1_keepSure_52 hl (k := 6) rfl (nI_add r 1) (by decide) rfl (fun ls hl => ?_)
          refine lv_goto (tgt := 21) hx hb dX1_keepSure_55 (by decide) ?_
          exact ih21 (r + 1) (up4 T ph x r (some tn)) (by omega) (by omega) (by rw [← hE, show 8 - r = (8 - (r + 1)) + 1 by omega, kT]; first | rw [if_pos (by assumption)] | rw [if_neg (by simp [c25_3, c34_6]; done)]) _ _ hP hD hS ls (lv_sub hl [1, 2, 3, 4, 5, 6, 0] rfl)
  exact loop21 (8 + 1) 0 (oT ω) (by omega) (by omega) rfl _ _ hP hD hS ls (lv_sub hl [2, 3, 4, 5, 6, 1, 0] rfl)

set_option maxHeartbeats 4000000 in
set_option maxRecDepth 100000 in
theorem c_X1_layWay (l : Launch) (D : va_G) (cZ cI : ClassId) (o : Nat → Nat) (q : Nat → Nat) (ω : OS) (σ : HS) (sz : Nat) (ph : Nat) (x : Nat) (y : Nat) (hp : ph < 12) (hx8 : x < 8) (hy8 : y < 8) : Met l yX1_layWay wsX1_layWay ({ frames := 1, cells := 0, slots := 0, locals := 21 }) (WrP D cZ cI [.ref (o 0), .ref (q 0), .int (nI ph), .int (nI x), .int (nI y)] (pO cZ cI o q ω σ) sz) (WrV D (pO cZ cI o q (layF (oW ω) (zS σ) ph x y, oU ω, oB ω, oT ω) σ) (va_A (pO cZ cI o q ω σ) sz)) 0 0 (va_A (pO cZ cI o q ω σ) sz) := by
  refine Met.ofW (cc := cX1_layWay) (maxL := 5) (ret := none) (by decide) rfl ?_
  intro p e s m args below meth c s₁ B hml hv
  obtain ⟨rfl, hsz, hP, hZ, hD0⟩ := hv
  have hx := B.exec
  have hb := B.bytes
  have hr := B.returns
  have hts := atoms_spec (ws := wsX1_layWay) B.pre
  have hown : s.vm.findClass RX1 = some m.cls := findClass_of_methodNamed B.named
  have hlocks := B.notSynchronized
  subst hsz
  have hD := hD0.self (sz := s.heap.size)
  generalize hAe : va_A (pO cZ cI o q ω σ) s.heap.size = A at hD ⊢
  have hA : ∀ q : Nat, s.heap.size ≤ q → A q := fun q h => by rw [← hAe]; exact Or.inr h
  have hS : va_S A s.heap s.heap [] := va_S.rf
  have hP : va_P D vwCl (pO cZ cI o q ω σ) s.heap := hP
  have hl := lv_entry ([.ref (o 0), .ref (q 0), .int (nI ph), .int (nI x), .int (nI y)]) (n := 5) (Nat.le_of_ble_eq_true rfl)
  rw [lg_entry_eq]
  generalize (lg_sl ([.ref (o 0), .ref (q 0), .int (nI ph), .int (nI x), .int (nI y)]) ++ List.replicate (5 - (lg_sl ([.ref (o 0), .ref (q 0), .int (nI ph), .int (nI x), .int (nI y)])).length) Slot.unset).toArray = ls at hl ⊢
  have hl : lv_has ls 5 [(0, .ref (o 0)), (1, .ref (q 0)), (2, .int (nI ph)), (3, .int (nI x)), (4, .int (nI y))] := hl
  have hin0 : ∀ w ∈ u_ws RX0 TX0 9, w ∈ wsX1_layWay := by decide +kernel
  have hin1 : ∀ w ∈ u_ws RX1 TX1 4, w ∈ wsX1_layWay := by decide +kernel
  have hf11 := hts (.fieldLink RX1 11 "DoorChase$Outlook" "ways" "[I") (by decide +kernel)
  have hf77 := hts (.fieldLink RX1 77 "DoorChase$House" "safe" "[Z") (by decide +kernel)
  refine lv_iload_n hx hb dX1_layWay_0 rfl (lv_at hl 2 rfl) ?_
  refine vp_callSi (va_runSN (As := [.int (nI ph)]) (rest := []) ⟨hx, hb, hml, hown, hts⟩ (c_X2_isCatsPhase l D cZ cI   ph (by first | assumption | omega)) ⟨va_cnB 1 hts gX1_layWay_X2_isCatsPhase_n73 rfl rfl rfl hZ.2.2.2.2.2.1 (hts (.initialized RX2) (by decide +kernel)) (by decide +kernel) ⟨Nat.le_of_ble_eq_true rfl, Nat.le_of_ble_eq_true rfl⟩, hts (.static yX2_isCatsPhase) (by decide +kernel), trivial⟩ ⟨RdP_blind, RdP_start (hP.sub (ws' := []) [] rfl) hZ⟩ rfl rfl hl.1 rfl (lv_room (Nat.le_of_ble_eq_true rfl)) dX1_layWay_1 ⟨Nat.le_of_ble_eq_true rfl, Nat.le_of_ble_eq_true rfl⟩).run (fun r_1 hr_2 => ?_)
  subst hr_2
  refine rv_top (show _ = bI (isC ph) from rfl) ?_
  refine rv_ifeqB (tgt := 17) hx hb dX1_layWay_4 (by decide) (fun c4_3 => ?_) (fun c4_3 => ?_)
  · skip
    refine lv_aload_n hx hb dX1_layWay_17 rfl (lv_at hl 0 rfl) ?_
    refine va_get (D := D) (ci := 1) (v := .ref (o 1)) (C := RX1) (T := TX1) (N := 4) hx hb hts hin1 hown hZ.1 hP 0 rfl rfl 0 (by decide) hf11 (fun _ h9 => h9) rfl dX1_layWay_18 ?_
    refine lv_iload_n hx hb dX1_layWay_21 rfl (lv_at hl 2 rfl) ?_
    refine lv_iload_n hx hb dX1_layWay_22 rfl (lv_at hl 3 rfl) ?_
    refine vp_callSi (va_runS (As := [.int (nI ph), .int (nI x)]) (rest := [.ref (o 1)]) ⟨hx, hb, hml, hown, hts⟩ (c_X1_placeOf l D cZ cI   ph x ) (va_cwS 2 hts gX1_layWay_X1_placeOf rfl rfl rfl (by decide +kernel) ⟨Nat.le_of_ble_eq_true rfl, Nat.le_of_ble_eq_true rfl⟩) ⟨RdP_blind, RdP_start (hP.sub (ws' := []) [] rfl) hZ⟩ rfl rfl hl.1 rfl (lv_room (Nat.le_of_ble_eq_true rfl)) dX1_layWay_23 ⟨Nat.le_of_ble_eq_true rfl, Nat.le_of_ble_eq_true rfl⟩).run (fun r_4 hr_5 => ?_)
    subst hr_5
    refine rv_top (show _ = nI (ph * 8 + x) from rfl) ?_
    refine lv_dup2_11 hx hb dX1_layWay_26 rfl rfl ?_
    refine rv_iald hx hb hZ.1 hP 1 1 rfl rfl (r := ph * 8 + x) (by omega) (by decide) (v := sb ((oW ω) ph x)) (encW_at _ ph (by omega)) dX1_layWay_27 ?_
    refine lv_iload hx hb dX1_layWay_28 (lv_at hl 4 rfl) ?_
    refine vp_callSi (va_runSN (As := [.int (nI y)]) (rest := [.int (sb ((oW ω) ph x)), .int (nI (ph * 8 + x)), .ref (o 1)]) ⟨hx, hb, hml, hown, hts⟩ (c_X2_bit l D cZ cI   y (by first | assumption | omega)) ⟨va_cnB 1 hts gX1_layWay_X2_bit_n50 rfl rfl rfl hZ.2.2.2.2.1 (hts (.initialized RX2) (by decide +kernel)) (by decide +kernel) ⟨Nat.le_of_ble_eq_true rfl, Nat.le_of_ble_eq_true rfl⟩, hts (.static yX2_bit) (by decide +kernel), trivial⟩ ⟨RdP_blind, RdP_start (hP.sub (ws' := []) [] rfl) hZ⟩ rfl rfl hl.1 rfl (lv_room (Nat.le_of_ble_eq_true rfl)) dX1_layWay_30 ⟨Nat.le_of_ble_eq_true rfl, Nat.le_of_ble_eq_true rfl⟩).run (fun r_6 hr_7 => ?_)
    subst hr_7
    refine rv_top (show _ = sb (fun i => i == y) from rfl) ?_
    refine rv_orS hx hb dX1_layWay_33 ?_
    refine rv_iast hx hb hZ.1 hP hD hS 1 1 rfl rfl (r := ph * 8 + x) (by omega) (by decide) (encW_up _ ph (by omega) _) dX1_layWay_34 (fun H locs hP hD hS => ?_)
    have hP : va_P D vwCl (pO cZ cI o q (up3 (oW ω) ph x (fun i => ((oW ω) ph x) i || (fun i => i == y) i), oU ω, oB ω, oT ω) σ) H := hP
    have hD : va_D A (pO cZ cI o q (up3 (oW ω) ph x (fun i => ((oW ω) ph x) i || (fun i => i == y) i), oU ω, oB ω, oT ω) σ) := hD
    have hP9 : va_P D vwCl (pO cZ cI o q (layF (oW ω) (zS σ) ph x y, oU ω, oB ω, oT ω) σ) H := by (first | (rw [layF, if_pos (Or.inl (by assumption))]; exact hP) | (rw [layF, if_pos (Or.inr (by assumption))]; exact hP) | (rw [layF, if_neg (by simp_all)]; exact hP))
    have hD9 : va_D A (pO cZ cI o q (layF (oW ω) (zS σ) ph x y, oU ω, oB ω, oT ω) σ) := by (first | (rw [layF, if_pos (Or.inl (by assumption))]; exact hD) | (rw [layF, if_pos (Or.inr (by assumption))]; exact hD) | (rw [layF, if_neg (by simp_all)]; exact hD))
    exact W.vret hx hb hr (fun t ht hW => ⟨⟨(), rfl, trivial, by rw [ht]; exact hP9, hD9⟩, hS.F ht⟩) hS.2.2 dX1_layWay_35
  · skip
    refine lv_aload_n hx hb dX1_layWay_7 rfl (lv_at hl 1 rfl) ?_
    refine va_get (D := D) (ci := 0) (v := .ref (q 1)) (C := RX0) (T := TX0) (N := 9) hx hb hts hin0 hown hZ.1 hP 5 rfl rfl 1 (by decide) hf77 (fun _ h9 => h9) rfl dX1_layWay_8 ?_
    refine lv_iload hx hb dX1_layWay_11 (lv_at hl 4 rfl) ?_
    refine rv_zald hx hb hZ.1 hP 6 0 rfl rfl (r := y) (by omega) (by decide) (v := bI ((zS σ) y)) rfl dX1_layWay_13 ?_
    refine rv_ifneB (tgt := 35) hx hb dX1_layWay_14 (by decide) (fun c14_8 => ?_) (fun c14_8 => ?_)
    · skip
      have hP9 : va_P D vwCl (pO cZ cI o q (layF (oW ω) (zS σ) ph x y, oU ω, oB ω, oT ω) σ) s.heap := by (first | (rw [layF, if_pos (Or.inl (by assumption))]; exact hP) | (rw [layF, if_pos (Or.inr (by assumption))]; exact hP) | (rw [layF, if_neg (by simp_all)]; exact hP))
      have hD9 : va_D A (pO cZ cI o q (layF (oW ω) (zS σ) ph x y, oU ω, oB ω, oT ω) σ) := by (first | (rw [layF, if_pos (Or.inl (by assumption))]; exact hD) | (rw [layF, if_pos (Or.inr (by assumption))]; exact hD) | (rw [layF, if_neg (by simp_all)]; exact hD))
      exact W.vret hx hb hr (fun t ht hW => ⟨⟨(), rfl, trivial, by rw [ht]; exact hP9, hD9⟩, hS.F ht⟩) hS.2.2 dX1_layWay_35
    · skip
      refine lv_aload_n hx hb dX1_layWay_17 rfl (lv_at hl 0 rfl) ?_
      refine va_get (D := D) (ci := 1) (v := .ref (o 1)) (C := RX1) (T := TX1) (N := 4) hx hb hts hin1 hown hZ.1 hP 0 rfl rfl 0 (by decide) hf11 (fun _ h9 => h9) rfl dX1_layWay_18 ?_
      refine lv_iload_n hx hb dX1_layWay_21 rfl (lv_at hl 2 rfl) ?_
      refine lv_iload_n hx hb dX1_layWay_22 rfl (lv_at hl 3 rfl) ?_
      refine vp_callSi (va_runS (As := [.int (nI ph), .int (nI x)]) (rest := [.ref (o 1)]) ⟨hx, hb, hml, hown, hts⟩ (c_X1_placeOf l D cZ cI   ph x ) (va_cwS 2 hts gX1_layWay_X1_placeOf rfl rfl rfl (by decide +kernel) ⟨Nat.le_of_ble_eq_true rfl, Nat.le_of_ble_eq_true rfl⟩) ⟨RdP_blind, RdP_start (hP.sub (ws' := []) [] rfl) hZ⟩ rfl rfl hl.1 rfl (lv_room (Nat.le_of_ble_eq_true rfl)) dX1_layWay_23 ⟨Nat.le_of_ble_eq_true rfl, Nat.le_of_ble_eq_true rfl⟩).run (fun r_9 hr_10 => ?_)
      subst hr_10
      refine rv_top (show _ = nI (ph * 8 + x) from rfl) ?_
      refine lv_dup2_11 hx hb dX1_layWay_26 rfl rfl ?_
      refine rv_iald hx hb hZ.1 hP 1 1 rfl rfl (r := ph * 8 + x) (by omega) (by decide) (v := sb ((oW ω) ph x)) (encW_at _ ph (by omega)) dX1_layWay_27 ?_
      refine lv_iload hx hb dX1_layWay_28 (lv_at hl 4 rfl) ?_
      refine vp_callSi (va_runSN (As := [.int (nI y)]) (rest := [.int (sb ((oW ω) ph x)), .int (nI (ph * 8 + x)), .ref (o 1)]) ⟨hx, hb, hml, hown, hts⟩ (c_X2_bit l D cZ cI   y (by first | assumption | omega)) ⟨va_cnB 1 hts gX1_layWay_X2_bit_n50 rfl rfl rfl hZ.2.2.2.2.1 (hts (.initialized RX2) (by decide +kernel)) (by decide +kernel) ⟨Nat.le_of_ble_eq_true rfl, Nat.le_of_ble_eq_true rfl⟩, hts (.static yX2_bit) (by decide +kernel), trivial⟩ ⟨RdP_blind, RdP_start (hP.sub (ws' := []) [] rfl) hZ⟩ rfl rfl hl.1 rfl (lv_room (Nat.le_of_ble_eq_true rfl)) dX1_layWay_30 ⟨Nat.le_of_ble_eq_true rfl, Nat.le_of_ble_eq_true rfl⟩).run (fun r_11 hr_12 => ?_)
      subst hr_12
      refine rv_top (show _ = sb (fun i => i == y) from rfl) ?_
      refine rv_orS hx hb dX1_layWay_33 ?_
      refine rv_iast hx hb hZ.1 hP hD hS 1 1 rfl rfl (r := ph * 8 + x) (by omega) (by decide) (encW_up _ ph (by omega) _) dX1_layWay_34 (fun H locs hP hD hS => ?_)
      have hP : va_P D vwCl (pO cZ cI o q (up3 (oW ω) ph x (fun i => ((oW ω) ph x) i || (fun i => i == y) i), oU ω, oB ω, oT ω) σ) H := hP
      have hD : va_D A (pO cZ cI o q (up3 (oW ω) ph x (fun i => ((oW ω) ph x) i || (fun i => i == y) i), oU ω, oB ω, oT ω) σ) := hD
      have hP9 : va_P D vwCl (pO cZ cI o q (layF (oW ω) (zS σ) ph x y, oU ω, oB ω, oT ω) σ) H := by (first | (rw [layF, if_pos (Or.inl (by assumption))]; exact hP) | (rw [layF, if_pos (Or.inr (by assumption))]; exact hP) | (rw [layF, if_neg (by simp_all)]; exact hP))
      have hD9 : va_D A (pO cZ cI o q (layF (oW ω) (zS σ) ph x y, oU ω, oB ω, oT ω) σ) := by (first | (rw [layF, if_pos (Or.inl (by assumption))]; exact hD) | (rw [layF, if_pos (Or.inr (by assumption))]; exact hD) | (rw [layF, if_neg (by simp_all)]; exact hD))
      exact W.vret hx hb hr (fun t ht hW => ⟨⟨(), rfl, trivial, by rw [ht]; exact hP9, hD9⟩, hS.F ht⟩) hS.2.2 dX1_layWay_35

set_option maxHeartbeats 4000000 in
set_option maxRecDepth 100000 in
theorem c_X1_layWays (l : Launch) (D : va_G) (cZ cI : ClassId) (o : Nat → Nat) (q : Nat → Nat) (ω : OS) (σ : HS) (sz : Nat) (lk : Option Nat) (hσ : zOk σ) (hlk : ∀ n, lk = some n → n < 2 ^ 31) : Met l yX1_layWays wsX1_layWays ({ frames := 2, cells := 0, slots := 0, locals := 45 }) (WrP D cZ cI [.ref (o 0), .ref (q 0), .int (iO lk)] (pO cZ cI o q ω σ) sz) (WrV D (pO cZ cI o q (lw3 σ lk 12 0 (oW ω), oU ω, oB ω, oT ω) σ) (va_A (pO cZ cI o q ω σ) sz)) 0 0 (va_A (pO cZ cI o q ω σ) sz) := by
  refine Met.ofW (cc := cX1_layWays) (maxL := 5) (ret := none) (by decide) rfl ?_
  intro p e s m args below meth c s₁ B hml hv
  obtain ⟨rfl, hsz, hP, hZ, hD0⟩ := hv
  have hx := B.exec
  have hb := B.bytes
  have hr := B.returns
  have hts := atoms_spec (ws := wsX1_layWays) B.pre
  have hown : s.vm.findClass RX1 = some m.cls := findClass_of_methodNamed B.named
  have hlocks := B.notSynchronized
  subst hsz
  have hD := hD0.self (sz := s.heap.size)
  generalize hAe : va_A (pO cZ cI o q ω σ) s.heap.size = A at hD ⊢
  have hA : ∀ q : Nat, s.heap.size ≤ q → A q := fun q h => by rw [← hAe]; exact Or.inr h
  have hS : va_S A s.heap s.heap [] := va_S.rf
  have hP : va_P D vwCl (pO cZ cI o q ω σ) s.heap := hP
  have hl := lv_entry ([.ref (o 0), .ref (q 0), .int (iO lk)]) (n := 5) (Nat.le_of_ble_eq_true rfl)
  rw [lg_entry_eq]
  generalize (lg_sl ([.ref (o 0), .ref (q 0), .int (iO lk)]) ++ List.replicate (5 - (lg_sl ([.ref (o 0), .ref (q 0), .int (iO lk)])).length) Slot.unset).toArray = ls at hl ⊢
  have hl : lv_has ls 5 [(0, .ref (o 0)), (1, .ref (q 0)), (2, .int (iO lk))] := hl
  have hin0 : ∀ w ∈ u_ws RX0 TX0 9, w ∈ wsX1_layWays := by decide +kernel
  have hin1 : ∀ w ∈ u_ws RX1 TX1 4, w ∈ wsX1_layWays := by decide +kernel
  have hf11 := hts (.fieldLink RX1 11 "DoorChase$Outlook" "ways" "[I") (by decide +kernel)
  have hf54 := hts (.fieldLink RX1 54 "DoorChase$House" "doorCount" "I") (by decide +kernel)
  have hf63 := hts (.fieldLink RX1 63 "DoorChase$House" "firstRoom" "[I") (by decide +kernel)
  have hf66 := hts (.fieldLink RX1 66 "DoorChase$House" "secondRoom" "[I") (by decide +kernel)
  obtain ⟨hσ1, hσ2, hσ3, hσ4, hσ5, hσ6, hσ7⟩ := id hσ
  refine lv_iconst (v := nI 0) hx hb dX1_layWays_0 (by decide) ?_
  refine lv_istore_n (lv' := [(3, .int (nI 0)), (0, .ref (o 0)), (1, .ref (q 0)), (2, .int (iO lk))]) hx hb dX1_layWays_1 rfl hl (by decide) rfl (fun ls hl => ?_)
  have loop2 : ∀ (n : Nat) (ph : Nat) (Wa : Nat → Nat → Nat → Bool), 12 + 1 ≤ ph + n → (ph ≤ 12) → (lw3 σ lk (12 - ph) ph Wa = lw3 σ lk 12 0 (oW ω)) → ∀ (H : Heap) (locs : List Loc), va_P D vwCl (pO cZ cI o q (Wa, oU ω, oB ω, oT ω) σ) H → va_D A (pO cZ cI o q (Wa, oU ω, oB ω, oT ω) σ) → va_S A s.heap H locs → ∀ (ls : Array Slot), lv_has ls 5 [(0, .ref (o 0)), (1, .ref (q 0)), (2, .int (iO lk)), (3, .int (nI ph))] → W p l e (headSpec wsX1_layWays ({ frames := 2, cells := 0, slots := 0, locals := 45 })).room s m ([.ref (o 0), .ref (q 0), .int (iO lk)] : List Value).toArray below meth c H locs 0 0 (MQ below (WrV D (pO cZ cI o q (lw3 σ lk 12 0 (oW ω), oU ω, oB ω, oT ω) σ) A) ([.ref (o 0), .ref (q 0), .int (iO lk)] : List Value).toArray s 0 0 A) (F0 m 2 ls []) := by
    intro n
    induction n with
    | zero =>
      intro ph Wa hmeas hp hE2 H locs hP hD hS ls hl
      exact absurd hmeas (by omega)
    | succ n ih2 =>
      intro ph Wa hmeas hp hE2 H locs hP hD hS ls hl
      refine lv_iload_n hx hb dX1_layWays_2 rfl (lv_at hl 3 rfl) ?_
      refine lv_bipush (v := nI 12) hx hb dX1_layWays_3 (by decide) ?_
      refine rv_ge (tgt := 120) hx hb (by omega) (by omega) dX1_layWays_5 (by decide) (fun c5_1 => ?_) (fun c5_1 => ?_)
      · skip
        have hP9 : va_P D vwCl (pO cZ cI o q (lw3 σ lk 12 0 (oW ω), oU ω, oB ω, oT ω) σ) H := by (rw [show lw3 σ lk 12 0 (oW ω) = Wa from by rw [← hE2, show 12 - ph = 0 by omega]; rfl]; exact hP)
        have hD9 : va_D A (pO cZ cI o q (lw3 σ lk 12 0 (oW ω), oU ω, oB ω, oT ω) σ) := by (rw [show lw3 σ lk 12 0 (oW ω) = Wa from by rw [← hE2, show 12 - ph = 0 by omega]; rfl]; exact hD)
        exact W.vret hx hb hr (fun t ht hW => ⟨⟨(), rfl, trivial, by rw [ht]; exact hP9, hD9⟩, hS.F ht⟩) hS.2.2 dX1_layWays_120
      · skip
        refine lv_iconst (v := nI 0) hx hb dX1_layWays_8 (by decide) ?_
        refine lv_istore (lv' := [(4, .int (nI 0)), (0, .ref (o 0)), (1, .ref (q 0)), (2, .int (iO lk)), (3, .int (nI ph))]) hx hb dX1_layWays_9 hl (by decide) rfl (fun ls hl => ?_)
        have loop11 : ∀ (n : Nat) (r : Nat) (Wb : Nat → Nat → Nat → Bool), 8 + 1 ≤ r + n → (r ≤ 8) → (lw1 ph (8 - r) r Wb = lw1 ph 8 0 Wa) → ∀ (H : Heap) (locs : List Loc), va_P D vwCl (pO cZ cI o q (Wb, oU ω, oB ω, oT ω) σ) H → va_D A (pO cZ cI o q (Wb, oU ω, oB ω, oT ω) σ) → va_S A s.heap H locs → ∀ (ls : Array Slot), lv_has ls 5 [(0, .ref (o 0)), (1, .ref (q 0)), (2, .int (iO lk)), (3, .int (nI ph)), (4, .int (nI r))] → W p l e (headSpec wsX1_layWays ({ frames := 2, cells := 0, slots := 0, locals := 45 })).room s m ([.ref (o 0), .ref (q 0), .int (iO lk)] : List Value).toArray below meth c H locs 0 0 (MQ below (WrV D (pO cZ cI o q (lw3 σ lk 12 0 (oW ω), oU ω, oB ω, oT ω) σ) A) ([.ref (o 0), .ref (q 0), .int (iO lk)] : List Value).toArray s 0 0 A) (F0 m 11 ls []) := by
          intro n
          induction n with
          | zero =>
            intro r Wb hmeas hr8 hE11 H locs hP hD hS ls hl
            exact absurd hmeas (by omega)
          | succ n ih11 =>
            intro r Wb hmeas hr8 hE11 H locs hP hD hS ls hl
            refine lv_iload hx hb dX1_layWays_11 (lv_at hl 4 rfl) ?_
            refine lv_bipush (v := nI 8) hx hb dX1_layWays_13 (by decide) ?_
            refine rv_ge (tgt := 40) hx hb (by omega) (by omega) dX1_layWays_15 (by decide) (fun c15_2 => ?_) (fun c15_2 => ?_)
            · skip
              refine lv_iconst (v := nI 0) hx hb dX1_layWays_40 (by decide) ?_
              refine lv_istore (lv' := [(4, .int (nI 0)), (0, .ref (o 0)), (1, .ref (q 0)), (2, .int (iO lk)), (3, .int (nI ph))]) hx hb dX1_layWays_41 hl (by decide) rfl (fun ls hl => ?_)
              have loop43 : ∀ (n : Nat) (d : Nat) (Wc : Nat → Nat → Nat → Bool), zM σ + 1 ≤ d + n → (d ≤ zM σ) → (lw2 σ lk ph (zM σ - d) d Wc = lw2 σ lk ph (zM σ) 0 (lw1 ph 8 0 Wa)) → ∀ (H : Heap) (locs : List Loc), va_P D vwCl (pO cZ cI o q (Wc, oU ω, oB ω, oT ω) σ) H → va_D A (pO cZ cI o q (Wc, oU ω, oB ω, oT ω) σ) → va_S A s.heap H locs → ∀ (ls : Array Slot), lv_has ls 5 [(0, .ref (o 0)), (1, .ref (q 0)), (2, .int (iO lk)), (3, .int (nI ph)), (4, .int (nI d))] → W p l e (headSpec wsX1_layWays ({ frames := 2, cells := 0, slots := 0, locals := 45 })).room s m ([.ref (o 0), .ref (q 0), .int (iO lk)] : List Value).toArray below meth c H locs 0 0 (MQ below (WrV D (pO cZ cI o q (lw3 σ lk 12 0 (oW ω), oU ω, oB ω, oT ω) σ) A) ([.ref (o 0), .ref (q 0), .int (iO lk)] : List Value).toArray s 0 0 A) (F0 m 43 ls []) := by
                intro n
                induction n with
                | zero =>
                  intro d Wc hmeas hd hE43 H locs hP hD hS ls hl
                  exact absurd hmeas (by omega)
                | succ n ih43 =>
                  intro d Wc hmeas hd hE43 H locs hP hD hS ls hl
                  have hF9 := hσ3 d
                  have hG9 := hσ4 d
                  refine lv_iload hx hb dX1_layWays_43 (lv_at hl 4 rfl) ?_
                  refine lv_aload_n hx hb dX1_layWays_45 rfl (lv_at hl 1 rfl) ?_
                  refine va_get (D := D) (ci := 0) (v := .int (nI (zM σ))) (C := RX0) (T := TX0) (N := 9) hx hb hts hin0 hown hZ.1 hP 5 rfl rfl 3 (by decide) hf54 (fun _ h9 => h9) rfl dX1_layWays_46 ?_
                  refine rv_ge (tgt := 114) hx hb (by omega) (by omega) dX1_layWays_49 (by decide) (fun c49_3 => ?_) (fun c49_3 => ?_)
                  · skip
                    refine lv_iinc (v := nI (ph + 1)) (lv' := [(3, .int (nI (ph + 1))), (0, .ref (o 0)), (1, .ref (q 0)), (2, .int (iO lk)), (4, .int (nI d))]) hx hb dX1_layWays_114 hl (k := 3) rfl (nI_add ph 1) (by decide) rfl (fun ls hl => ?_)
                    refine lv_goto (tgt := 2) hx hb dX1_layWays_117 (by decide) ?_
                    exact ih2 (ph + 1) Wc (by omega) (by omega) (by rw [← hE2, show 12 - ph = (12 - (ph + 1)) + 1 by omega, lw3, ← hE43, show zM σ - d = 0 by omega]; rfl) _ _ hP hD hS ls (lv_sub hl [1, 2, 3, 0] rfl)
                  · skip
                    refine lv_iload hx hb dX1_layWays_52 (lv_at hl 4 rfl) ?_
                    refine lv_iload_n hx hb dX1_layWays_54 rfl (lv_at hl 2 rfl) ?_
                    refine rv_eqNO (tgt := 108) hx hb (by omega) (by assumption) dX1_layWays_55 (by decide) (fun c55_4 => ?_) (fun c55_4 => ?_)
                    · skip
                      refine lv_iinc (v := nI (d + 1)) (lv' := [(4, .int (nI (d + 1))), (0, .ref (o 0)), (1, .ref (q 0)), (2, .int (iO lk)), (3, .int (nI ph))]) hx hb dX1_layWays_108 hl (k := 4) rfl (nI_add d 1) (by decide) rfl (fun ls hl => ?_)
                      refine lv_goto (tgt := 43) hx hb dX1_layWays_111 (by decide) ?_
                      exact ih43 (d + 1) Wc (by omega) (by omega) (by rw [← hE43, show zM σ - d = (zM σ - (d + 1)) + 1 by omega, lw2]; first | rw [if_pos (by assumption)] | rw [if_neg (by assumption), if_pos (by assumption)] | rw [if_neg (by assumption), if_neg (by simp [c5_1, c15_2, c49_3, c55_4]; done)]) _ _ hP hD hS ls (lv_sub hl [1, 2, 3, 4, 0] rfl)
                    · skip
                      refine lv_aload_n hx hb dX1_layWays_58 rfl (lv_at hl 1 rfl) ?_
                      refine lv_iload hx hb dX1_layWays_59 (lv_at hl 4 rfl) ?_
                      refine lv_iload_n hx hb dX1_layWays_61 rfl (lv_at hl 3 rfl) ?_
                      refine vp_callSi (va_runV (As := [.int (nI d), .int (nI ph)]) (rest := []) ⟨hx, hb, hml, hown, hts⟩ (c_X0_isOpenIn l D cZ cI q σ  d ph (by first | assumption | omega) (by first | assumption | omega) (by first | assumption | omega)) (cwV 2 hts gX1_layWays_X0_isOpenIn rfl rfl rfl (by decide +kernel) ⟨Nat.le_of_ble_eq_true rfl, Nat.le_of_ble_eq_true rfl⟩) ⟨RdP_blind, va_recv hZ.1 hP (ci := 0) (q0 := 5) rfl rfl, RdP_start (hP.sub (ws' := pH cZ cI q σ) [5, 6, 7, 8, 9, 10, 11, 12] rfl) hZ⟩ rfl rfl hl.1 rfl (lv_room (Nat.le_of_ble_eq_true rfl)) dX1_layWays_62 ⟨Nat.le_of_ble_eq_true rfl, Nat.le_of_ble_eq_true rfl⟩).run (fun r_5 hr_6 => ?_)
                      subst hr_6
                      refine rv_top (show _ = bI (hOpen σ d ph) from rfl) ?_
                      refine rv_ifeqB (tgt := 108) hx hb dX1_layWays_65 (by decide) (fun c65_7 => ?_) (fun c65_7 => ?_)
                      · skip
                        refine lv_iinc (v := nI (d + 1)) (lv' := [(4, .int (nI (d + 1))), (0, .ref (o 0)), (1, .ref (q 0)), (2, .int (iO lk)), (3, .int (nI ph))]) hx hb dX1_layWays_108 hl (k := 4) rfl (nI_add d 1) (by decide) rfl (fun ls hl => ?_)
                        refine lv_goto (tgt := 43) hx hb dX1_layWays_111 (by decide) ?_
                        exact ih43 (d + 1) Wc (by omega) (by omega) (by rw [← hE43, show zM σ - d = (zM σ - (d + 1)) + 1 by omega, lw2]; first | rw [if_pos (by assumption)] | rw [if_neg (by assumption), if_pos (by assumption)] | rw [if_neg (by assumption), if_neg (by simp [c5_1, c15_2, c49_3, c55_4, c65_7]; done)]) _ _ hP hD hS ls (lv_sub hl [1, 2, 3, 4, 0] rfl)
                      · skip
                        refine lv_aload_n hx hb dX1_layWays_68 rfl (lv_at hl 0 rfl) ?_
                        refine lv_aload_n hx hb dX1_layWays_69 rfl (lv_at hl 1 rfl) ?_
                        refine lv_iload_n hx hb dX1_layWays_70 rfl (lv_at hl 3 rfl) ?_
                        refine lv_aload_n hx hb dX1_layWays_71 rfl (lv_at hl 1 rfl) ?_
                        refine va_get (D := D) (ci := 0) (v := .ref (q 3)) (C := RX0) (T := TX0) (N := 9) hx hb hts hin0 hown hZ.1 hP 5 rfl rfl 4 (by decide) hf63 (fun _ h9 => h9) rfl dX1_layWays_72 ?_
                        refine lv_iload hx hb dX1_layWays_75 (lv_at hl 4 rfl) ?_
                        refine rv_iald hx hb hZ.1 hP 8 1 rfl rfl (r := d) (by omega) (by decide) (v := nI ((zF σ) d)) rfl dX1_layWays_77 ?_
                        refine lv_aload_n hx hb dX1_layWays_78 rfl (lv_at hl 1 rfl) ?_
                        refine va_get (D := D) (ci := 0) (v := .ref (q 4)) (C := RX0) (T := TX0) (N := 9) hx hb hts hin0 hown hZ.1 hP 5 rfl rfl 5 (by decide) hf66 (fun _ h9 => h9) rfl dX1_layWays_79 ?_
                        refine lv_iload hx hb dX1_layWays_82 (lv_at hl 4 rfl) ?_
                        refine rv_iald hx hb hZ.1 hP 9 1 rfl rfl (r := d) (by omega) (by decide) (v := nI ((zG σ) d)) rfl dX1_layWays_84 ?_
                        have hFc := va_free (wc := pO cZ cI o q (Wc, oU ω, oB ω, oT ω) σ) hD hS hA [0, 1, 2, 3, 4, 5, 6, 7, 8, 9, 10, 11, 12] rfl
                        refine va_callv (va_runV (As := [.ref (q 0), .int (nI ph), .int (nI ((zF σ) d)), .int (nI ((zG σ) d))]) (rest := []) ⟨hx, hb, hml, hown, hts⟩ (c_X1_layWay l D cZ cI o q (Wc, oU ω, oB ω, oT ω) σ H.size ph ((zF σ) d) ((zG σ) d) (by first | assumption | omega) (by first | assumption | omega) (by first | assumption | omega)) (cwV 4 hts gX1_layWays_X1_layWay rfl rfl rfl (by decide +kernel) ⟨Nat.le_of_ble_eq_true rfl, Nat.le_of_ble_eq_true rfl⟩) ⟨WrP_blind, va_recv hZ.1 hP (ci := 1) (q0 := 0) rfl rfl, WrP_start hP hD hZ⟩ rfl rfl hl.1 rfl (lv_room (Nat.le_of_ble_eq_true rfl)) dX1_layWays_85 ⟨Nat.le_of_ble_eq_true rfl, Nat.le_of_ble_eq_true rfl⟩) hS (fun q _ h => hFc q h) hFc (fun u t H1 locs ht hvm hw hB hz1 hk1 hS => ?_)
                        obtain ⟨hP, hD⟩ := hB
                        rw [ht] at hP
                        replace hD := hD.weaken (fun _ _ _ h => hFc _ h)
                        generalize H1 = H at hP hS ⊢
                        have hP : va_P D vwCl (pO cZ cI o q (layF (Wc) ((zS σ)) ph ((zF σ) d) ((zG σ) d), oU ω, oB ω, oT ω) σ) H := hP
                        have hD : va_D A (pO cZ cI o q (layF (Wc) ((zS σ)) ph ((zF σ) d) ((zG σ) d), oU ω, oB ω, oT ω) σ) := hD
                        refine lv_aload_n hx hb dX1_layWays_88 rfl (lv_at hl 0 rfl) ?_
                        refine lv_aload_n hx hb dX1_layWays_89 rfl (lv_at hl 1 rfl) ?_
                        refine lv_iload_n hx hb dX1_layWays_90 rfl (lv_at hl 3 rfl) ?_
                        refine lv_aload_n hx hb dX1_layWays_91 rfl (lv_at hl 1 rfl) ?_
                        refine va_get (D := D) (ci := 0) (v := .ref (q 4)) (C := RX0) (T := TX0) (N := 9) hx hb hts hin0 hown hZ.1 hP 5 rfl rfl 5 (by decide) hf66 (fun _ h9 => h9) rfl dX1_layWays_92 ?_
                        refine lv_iload hx hb dX1_layWays_95 (lv_at hl 4 rfl) ?_
                        refine rv_iald hx hb hZ.1 hP 9 1 rfl rfl (r := d) (by omega) (by decide) (v := nI ((zG σ) d)) rfl dX1_layWays_97 ?_
                        refine lv_aload_n hx hb dX1_layWays_98 rfl (lv_at hl 1 rfl) ?_
                        refine va_get (D := D) (ci := 0) (v := .ref (q 3)) (C := RX0) (T := TX0) (N := 9) hx hb hts hin0 hown hZ.1 hP 5 rfl rfl 4 (by decide) hf63 (fun _ h9 => h9) rfl dX1_layWays_99 ?_
                        refine lv_iload hx hb dX1_layWays_102 (lv_at hl 4 rfl) ?_
                        refine rv_iald hx hb hZ.1 hP 8 1 rfl rfl (r := d) (by omega) (by decide) (v := nI ((zF σ) d)) rfl dX1_layWays_104 ?_
                        have hFc := va_free (wc := pO cZ cI o q (layF (Wc) ((zS σ)) ph ((zF σ) d) ((zG σ) d), oU ω, oB ω, oT ω) σ) hD hS hA [0, 1, 2, 3, 4, 5, 6, 7, 8, 9, 10, 11, 12] rfl
                        refine va_callv (va_runV (As := [.ref (q 0), .int (nI ph), .int (nI ((zG σ) d)), .int (nI ((zF σ) d))]) (rest := []) ⟨hx, hb, hml, hown, hts⟩ (c_X1_layWay l D cZ cI o q (layF (Wc) ((zS σ)) ph ((zF σ) d) ((zG σ) d), oU ω, oB ω, oT ω) σ H.size ph ((zG σ) d) ((zF σ) d) (by first | assumption | omega) (by first | assumption | omega) (by first | assumption | omega)) (cwV 4 hts gX1_layWays_X1_layWay rfl rfl rfl (by decide +kernel) ⟨Nat.le_of_ble_eq_true rfl, Nat.le_of_ble_eq_true rfl⟩) ⟨WrP_blind, va_recv hZ.1 hP (ci := 1) (q0 := 0) rfl rfl, WrP_start hP hD hZ⟩ rfl rfl hl.1 rfl (lv_room (Nat.le_of_ble_eq_true rfl)) dX1_layWays_105 ⟨Nat.le_of_ble_eq_true rfl, Nat.le_of_ble_eq_true rfl⟩) hS (fun q _ h => hFc q h) hFc (fun u t H1 locs ht hvm hw hB hz1 hk1 hS => ?_)
                        obtain ⟨hP, hD⟩ := hB
                        rw [ht] at hP
                        replace hD := hD.weaken (fun _ _ _ h => hFc _ h)
                        generalize H1 = H at hP hS ⊢
                        have hP : va_P D vwCl (pO cZ cI o q (layF ((layF (Wc) ((zS σ)) ph ((zF σ) d) ((zG σ) d))) ((zS σ)) ph ((zG σ) d) ((zF σ) d), oU ω, oB ω, oT ω) σ) H := hP
                        have hD : va_D A (pO cZ cI o q (layF ((layF (Wc) ((zS σ)) ph ((zF σ) d) ((zG σ) d))) ((zS σ)) ph ((zG σ) d) ((zF σ) d), oU ω, oB ω, oT ω) σ) := hD
                        refine lv_iinc (v := nI (d + 1)) (lv' := [(4, .int (nI (d + 1))), (0, .ref (o 0)), (1, .ref (q 0)), (2, .int (iO lk)), (3, .int (nI ph))]) hx hb dX1_layWays_108 hl (k := 4) rfl (nI_add d 1) (by decide) rfl (fun ls hl => ?_)
                        refine lv_goto (tgt := 43) hx hb dX1_layWays_111 (by decide) ?_
                        exact ih43 (d + 1) (layF ((layF (Wc) ((zS σ)) ph ((zF σ) d) ((zG σ) d))) ((zS σ)) ph ((zG σ) d) ((zF σ) d)) (by omega) (by omega) (by rw [← hE43, show zM σ - d = (zM σ - (d + 1)) + 1 by omega, lw2]; first | rw [if_pos (by assumption)] | rw [if_neg (by assumption), if_pos (by assumption)] | rw [if_neg (by assumption), if_neg (by simp [c5_1, c15_2, c49_3, c55_4, c65_7]; done)]) _ _ hP hD hS ls (lv_sub hl [1, 2, 3, 4, 0] rfl)
              exact loop43 (zM σ + 1) 0 Wb (by omega) (by omega) (congrArg (fun z => lw2 σ lk ph (zM σ) 0 z) (show Wb = lw1 ph 8 0 Wa from by rw [← hE11, show 8 - r = 0 by omega]; rfl)) _ _ hP hD hS ls (lv_sub hl [1, 2, 3, 4, 0] rfl)
            · skip
              refine lv_aload_n hx hb dX1_layWays_18 rfl (lv_at hl 0 rfl) ?_
              refine va_get (D := D) (ci := 1) (v := .ref (o 1)) (C := RX1) (T := TX1) (N := 4) hx hb hts hin1 hown hZ.1 hP 0 rfl rfl 0 (by decide) hf11 (fun _ h9 => h9) rfl dX1_layWays_19 ?_
              refine lv_iload_n hx hb dX1_layWays_22 rfl (lv_at hl 3 rfl) ?_
              refine lv_iload hx hb dX1_layWays_23 (lv_at hl 4 rfl) ?_
              refine vp_callSi (va_runS (As := [.int (nI ph), .int (nI r)]) (rest := [.ref (o 1)]) ⟨hx, hb, hml, hown, hts⟩ (c_X1_placeOf l D cZ cI   ph r ) (va_cwS 2 hts gX1_layWays_X1_placeOf rfl rfl rfl (by decide +kernel) ⟨Nat.le_of_ble_eq_true rfl, Nat.le_of_ble_eq_true rfl⟩) ⟨RdP_blind, RdP_start (hP.sub (ws' := []) [] rfl) hZ⟩ rfl rfl hl.1 rfl (lv_room (Nat.le_of_ble_eq_true rfl)) dX1_layWays_25 ⟨Nat.le_of_ble_eq_true rfl, Nat.le_of_ble_eq_true rfl⟩).run (fun r_8 hr_9 => ?_)
              subst hr_9
              refine rv_top (show _ = nI (ph * 8 + r) from rfl) ?_
              refine lv_iload hx hb dX1_layWays_28 (lv_at hl 4 rfl) ?_
              refine vp_callSi (va_runSN (As := [.int (nI r)]) (rest := [.int (nI (ph * 8 + r)), .ref (o 1)]) ⟨hx, hb, hml, hown, hts⟩ (c_X2_bit l D cZ cI   r (by first | assumption | omega)) ⟨va_cnB 1 hts gX1_layWays_X2_bit_n50 rfl rfl rfl hZ.2.2.2.2.1 (hts (.initialized RX2) (by decide +kernel)) (by decide +kernel) ⟨Nat.le_of_ble_eq_true rfl, Nat.le_of_ble_eq_true rfl⟩, hts (.static yX2_bit) (by decide +kernel), trivial⟩ ⟨RdP_blind, RdP_start (hP.sub (ws' := []) [] rfl) hZ⟩ rfl rfl hl.1 rfl (lv_room (Nat.le_of_ble_eq_true rfl)) dX1_layWays_30 ⟨Nat.le_of_ble_eq_true rfl, Nat.le_of_ble_eq_true rfl⟩).run (fun r_10 hr_11 => ?_)
              subst hr_11
              refine rv_top (show _ = sb (fun i => i == r) from rfl) ?_
              refine rv_iast hx hb hZ.1 hP hD hS 1 1 rfl rfl (r := ph * 8 + r) (by omega) (by decide) (encW_up _ ph (by omega) _) dX1_layWays_33 (fun H locs hP hD hS => ?_)
              have hP : va_P D vwCl (pO cZ cI o q (up3 Wb ph r (fun i => i == r), oU ω, oB ω, oT ω) σ) H := hP
              have hD : va_D A (pO cZ cI o q (up3 Wb ph r (fun i => i == r), oU ω, oB ω, oT ω) σ) := hD
              refine lv_iinc (v := nI (r + 1)) (lv' := [(4, .int (nI (r + 1))), (0, .ref (o 0)), (1, .ref (q 0)), (2, .int (iO lk)), (3, .int (nI ph))]) hx hb dX1_layWays_34 hl (k := 4) rfl (nI_add r 1) (by decide) rfl (fun ls hl => ?_)
              refine lv_goto (tgt := 11) hx hb dX1_layWays_37 (by decide) ?_
              exact ih11 (r + 1) (up3 Wb ph r (fun i => i == r)) (by omega) (by omega) (by rw [← hE11, show 8 - r = (8 - (r + 1)) + 1 by omega, lw1]) _ _ hP hD hS ls (lv_sub hl [1, 2, 3, 4, 0] rfl)
        exact loop11 (8 + 1) 0 Wa (by omega) (by omega) rfl _ _ hP hD hS ls (lv_sub hl [1, 2, 3, 4, 0] rfl)
  exact loop2 (12 + 1) 0 (oW ω) (by omega) (by omega) rfl _ _ hP hD hS ls (lv_sub hl [1, 2, 3, 0] rfl)

set_option maxHeartbeats 4000000 in
set_option maxRecDepth 100000 in
theorem c_X1_startInOneRoom (l : Launch) (D : va_G) (cZ cI : ClassId) (o : Nat → Nat) (q : Nat → Nat) (ω : OS) (σ : HS) (sz : Nat)  (hσ : zOk σ) : Met l yX1_startInOneRoom wsX1_startInOneRoom ({ frames := 2, cells := 0, slots := 0, locals := 47 }) (WrP D cZ cI [.ref (o 0), .ref (q 0)] (pO cZ cI o q ω σ) sz) (WrV D (pO cZ cI o q (oW ω, (s3 σ 12 0 (oU ω, s1 768 0 (oT ω))).1, oB ω, (s3 σ 12 0 (oU ω, s1 768 0 (oT ω))).2) σ) (va_A (pO cZ cI o q ω σ) sz)) 0 0 (va_A (pO cZ cI o q ω σ) sz) := by
  refine Met.ofW (cc := cX1_startInOneRoom) (maxL := 4) (ret := none) (by decide) rfl ?_
  intro p e s m args below meth c s₁ B hml hv
  obtain ⟨rfl, hsz, hP, hZ, hD0⟩ := hv
  have hx := B.exec
  have hb := B.bytes
  have hr := B.returns
  have hts := atoms_spec (ws := wsX1_startInOneRoom) B.pre
  have hown : s.vm.findClass RX1 = some m.cls := findClass_of_methodNamed B.named
  have hlocks := B.notSynchronized
  subst hsz
  have hD := hD0.self (sz := s.heap.size)
  generalize hAe : va_A (pO cZ cI o q ω σ) s.heap.size = A at hD ⊢
  have hA : ∀ q : Nat, s.heap.size ≤ q → A q := fun q h => by rw [← hAe]; exact Or.inr h
  have hS : va_S A s.heap s.heap [] := va_S.rf
  have hP : va_P D vwCl (pO cZ cI o q ω σ) s.heap := hP
  have hl := lv_entry ([.ref (o 0), .ref (q 0)]) (n := 4) (Nat.le_of_ble_eq_true rfl)
  rw [lg_entry_eq]
  generalize (lg_sl ([.ref (o 0), .ref (q 0)]) ++ List.replicate (4 - (lg_sl ([.ref (o 0), .ref (q 0)])).length) Slot.unset).toArray = ls at hl ⊢
  have hl : lv_has ls 4 [(0, .ref (o 0)), (1, .ref (q 0))] := hl
  have hin0 : ∀ w ∈ u_ws RX0 TX0 9, w ∈ wsX1_startInOneRoom := by decide +kernel
  have hin1 : ∀ w ∈ u_ws RX1 TX1 4, w ∈ wsX1_startInOneRoom := by decide +kernel
  have hf15 := hts (.fieldLink RX1 15 "DoorChase$Outlook" "sure" "[I") (by decide +kernel)
  have hf21 := hts (.fieldLink RX1 21 "DoorChase$Outlook" "turnsOfState" "[I") (by decide +kernel)
  have hf77 := hts (.fieldLink RX1 77 "DoorChase$House" "safe" "[Z") (by decide +kernel)
  have hf81 := hts (.fieldLink RX1 81 "DoorChase$House" "roomCount" "I") (by decide +kernel)
  obtain ⟨hσ1, hσ2, hσ3, hσ4, hσ5, hσ6, hσ7⟩ := id hσ
  refine lv_iconst (v := nI 0) hx hb dX1_startInOneRoom_0 (by decide) ?_
  refine lv_istore_n (lv' := [(2, .int (nI 0)), (0, .ref (o 0)), (1, .ref (q 0))]) hx hb dX1_startInOneRoom_1 rfl hl (by decide) rfl (fun ls hl => ?_)
  have loop2 : ∀ (n : Nat) (i : Nat) (Ta : Nat → Nat → Nat → Option Nat), 768 + 1 ≤ i + n → (i ≤ 768) → (s1 (768 - i) i Ta = s1 768 0 (oT ω)) → ∀ (H : Heap) (locs : List Loc), va_P D vwCl (pO cZ cI o q (oW ω, oU ω, oB ω, Ta) σ) H → va_D A (pO cZ cI o q (oW ω, oU ω, oB ω, Ta) σ) → va_S A s.heap H locs → ∀ (ls : Array Slot), lv_has ls 4 [(0, .ref (o 0)), (1, .ref (q 0)), (2, .int (nI i))] → W p l e (headSpec wsX1_startInOneRoom ({ frames := 2, cells := 0, slots := 0, locals := 47 })).room s m ([.ref (o 0), .ref (q 0)] : List Value).toArray below meth c H locs 0 0 (MQ below (WrV D (pO cZ cI o q (oW ω, (s3 σ 12 0 (oU ω, s1 768 0 (oT ω))).1, oB ω, (s3 σ 12 0 (oU ω, s1 768 0 (oT ω))).2) σ) A) ([.ref (o 0), .ref (q 0)] : List Value).toArray s 0 0 A) (F0 m 2 ls []) := by
    intro n
    induction n with
    | zero =>
      intro i Ta hmeas hi hE2 H locs hP hD hS ls hl
      exact absurd hmeas (by omega)
    | succ n ih2 =>
      intro i Ta hmeas hi hE2 H locs hP hD hS ls hl
      refine lv_iload_n hx hb dX1_startInOneRoom_2 rfl (lv_at hl 2 rfl) ?_
      refine lv_sipush (v := nI 768) hx hb dX1_startInOneRoom_3 (by decide) ?_
      refine rv_ge (tgt := 22) hx hb (by omega) (by omega) dX1_startInOneRoom_6 (by decide) (fun c6_1 => ?_) (fun c6_1 => ?_)
      · skip
        refine lv_iconst (v := nI 0) hx hb dX1_startInOneRoom_22 (by decide) ?_
        refine lv_istore_n (lv' := [(2, .int (nI 0)), (0, .ref (o 0)), (1, .ref (q 0))]) hx hb dX1_startInOneRoom_23 rfl hl (by decide) rfl (fun ls hl => ?_)
        have loop24 : ∀ (n : Nat) (ph : Nat) (Ub : Nat → Nat → Nat → Bool) (Tb : Nat → Nat → Nat → Option Nat), 12 + 1 ≤ ph + n → (ph ≤ 12) → (s3 σ (12 - ph) ph (Ub, Tb) = s3 σ 12 0 (oU ω, s1 768 0 (oT ω))) → ∀ (H : Heap) (locs : List Loc), va_P D vwCl (pO cZ cI o q (oW ω, Ub, oB ω, Tb) σ) H → va_D A (pO cZ cI o q (oW ω, Ub, oB ω, Tb) σ) → va_S A s.heap H locs → ∀ (ls : Array Slot), lv_has ls 4 [(0, .ref (o 0)), (1, .ref (q 0)), (2, .int (nI ph))] → W p l e (headSpec wsX1_startInOneRoom ({ frames := 2, cells := 0, slots := 0, locals := 47 })).room s m ([.ref (o 0), .ref (q 0)] : List Value).toArray below meth c H locs 0 0 (MQ below (WrV D (pO cZ cI o q (oW ω, (s3 σ 12 0 (oU ω, s1 768 0 (oT ω))).1, oB ω, (s3 σ 12 0 (oU ω, s1 768 0 (oT ω))).2) σ) A) ([.ref (o 0), .ref (q 0)] : List Value).toArray s 0 0 A) (F0 m 24 ls []) := by
          intro n
          induction n with
          | zero =>
            intro ph Ub Tb hmeas hp hE24 H locs hP hD hS ls hl
            exact absurd hmeas (by omega)
          | succ n ih24 =>
            intro ph Ub Tb hmeas hp hE24 H locs hP hD hS ls hl
            refine lv_iload_n hx hb dX1_startInOneRoom_24 rfl (lv_at hl 2 rfl) ?_
            refine lv_bipush (v := nI 12) hx hb dX1_startInOneRoom_25 (by decide) ?_
            refine rv_ge (tgt := 89) hx hb (by omega) (by omega) dX1_startInOneRoom_27 (by decide) (fun c27_2 => ?_) (fun c27_2 => ?_)
            · skip
              have hP9 : va_P D vwCl (pO cZ cI o q (oW ω, (s3 σ 12 0 (oU ω, s1 768 0 (oT ω))).1, oB ω, (s3 σ 12 0 (oU ω, s1 768 0 (oT ω))).2) σ) H := by (rw [show s3 σ 12 0 (oU ω, s1 768 0 (oT ω)) = (Ub, Tb) from by rw [← hE24, show 12 - ph = 0 by omega]; rfl]; exact hP)
              have hD9 : va_D A (pO cZ cI o q (oW ω, (s3 σ 12 0 (oU ω, s1 768 0 (oT ω))).1, oB ω, (s3 σ 12 0 (oU ω, s1 768 0 (oT ω))).2) σ) := by (rw [show s3 σ 12 0 (oU ω, s1 768 0 (oT ω)) = (Ub, Tb) from by rw [← hE24, show 12 - ph = 0 by omega]; rfl]; exact hD)
              exact W.vret hx hb hr (fun t ht hW => ⟨⟨(), rfl, trivial, by rw [ht]; exact hP9, hD9⟩, hS.F ht⟩) hS.2.2 dX1_startInOneRoom_89
            · skip
              refine lv_iconst (v := nI 0) hx hb dX1_startInOneRoom_30 (by decide) ?_
              refine lv_istore_n (lv' := [(3, .int (nI 0)), (0, .ref (o 0)), (1, .ref (q 0)), (2, .int (nI ph))]) hx hb dX1_startInOneRoom_31 rfl hl (by decide) rfl (fun ls hl => ?_)
              have loop32 : ∀ (n : Nat) (r : Nat) (Uc : Nat → Nat → Nat → Bool) (Tc : Nat → Nat → Nat → Option Nat), 8 + 1 ≤ r + n → (r ≤ 8) → (s2 σ ph (8 - r) r (Uc, Tc) = s2 σ ph 8 0 (Ub, Tb)) → ∀ (H : Heap) (locs : List Loc), va_P D vwCl (pO cZ cI o q (oW ω, Uc, oB ω, Tc) σ) H → va_D A (pO cZ cI o q (oW ω, Uc, oB ω, Tc) σ) → va_S A s.heap H locs → ∀ (ls : Array Slot), lv_has ls 4 [(0, .ref (o 0)), (1, .ref (q 0)), (2, .int (nI ph)), (3, .int (nI r))] → W p l e (headSpec wsX1_startInOneRoom ({ frames := 2, cells := 0, slots := 0, locals := 47 })).room s m ([.ref (o 0), .ref (q 0)] : List Value).toArray below meth c H locs 0 0 (MQ below (WrV D (pO cZ cI o q (oW ω, (s3 σ 12 0 (oU ω, s1 768 0 (oT ω))).1, oB ω, (s3 σ 12 0 (oU ω, s1 768 0 (oT ω))).2) σ) A) ([.ref (o 0), .ref (q 0)] : List Value).toArray s 0 0 A) (F0 m 32 ls []) := by
                intro n
                induction n with
                | zero =>
                  intro r Uc Tc hmeas hr8 hE32 H locs hP hD hS ls hl
                  exact absurd hmeas (by omega)
                | succ n ih32 =>
                  intro r Uc Tc hmeas hr8 hE32 H locs hP hD hS ls hl
                  refine lv_iload_n hx hb dX1_startInOneRoom_32 rfl (lv_at hl 3 rfl) ?_
                  refine lv_bipush (v := nI 8) hx hb dX1_startInOneRoom_33 (by decide) ?_
                  refine rv_ge (tgt := 83) hx hb (by omega) (by omega) dX1_startInOneRoom_35 (by decide) (fun c35_3 => ?_) (fun c35_3 => ?_)
                  · skip
                    refine lv_iinc (v := nI (ph + 1)) (lv' := [(2, .int (nI (ph + 1))), (0, .ref (o 0)), (1, .ref (q 0)), (3, .int (nI r))]) hx hb dX1_startInOneRoom_83 hl (k := 2) rfl (nI_add ph 1) (by decide) rfl (fun ls hl => ?_)
                    refine lv_goto (tgt := 24) hx hb dX1_startInOneRoom_86 (by decide) ?_
                    exact ih24 (ph + 1) Uc Tc (by omega) (by omega) (by rw [← hE24, show 12 - ph = (12 - (ph + 1)) + 1 by omega, s3, ← hE32, show 8 - r = 0 by omega]; rfl) _ _ hP hD hS ls (lv_sub hl [1, 2, 0] rfl)
                  · skip
                    refine lv_aload_n hx hb dX1_startInOneRoom_38 rfl (lv_at hl 0 rfl) ?_
                    refine va_get (D := D) (ci := 1) (v := .ref (o 2)) (C := RX1) (T := TX1) (N := 4) hx hb hts hin1 hown hZ.1 hP 0 rfl rfl 1 (by decide) hf15 (fun _ h9 => h9) rfl dX1_startInOneRoom_39 ?_
                    refine lv_iload_n hx hb dX1_startInOneRoom_42 rfl (lv_at hl 2 rfl) ?_
                    refine lv_iload_n hx hb dX1_startInOneRoom_43 rfl (lv_at hl 3 rfl) ?_
                    refine vp_callSi (va_runS (As := [.int (nI ph), .int (nI r)]) (rest := [.ref (o 2)]) ⟨hx, hb, hml, hown, hts⟩ (c_X1_placeOf l D cZ cI   ph r ) (va_cwS 2 hts gX1_startInOneRoom_X1_placeOf rfl rfl rfl (by decide +kernel) ⟨Nat.le_of_ble_eq_true rfl, Nat.le_of_ble_eq_true rfl⟩) ⟨RdP_blind, RdP_start (hP.sub (ws' := []) [] rfl) hZ⟩ rfl rfl hl.1 rfl (lv_room (Nat.le_of_ble_eq_true rfl)) dX1_startInOneRoom_44 ⟨Nat.le_of_ble_eq_true rfl, Nat.le_of_ble_eq_true rfl⟩).run (fun r_4 hr_5 => ?_)
                    subst hr_5
                    refine rv_top (show _ = nI (ph * 8 + r) from rfl) ?_
                    refine lv_iconst (v := nI 0) hx hb dX1_startInOneRoom_47 (by decide) ?_
                    refine rv_top (show nI 0 = sb (fun _ => false) from sb_0.symm) ?_
                    refine rv_iast hx hb hZ.1 hP hD hS 2 1 rfl rfl (r := ph * 8 + r) (by omega) (by decide) (encW_up _ ph (by omega) _) dX1_startInOneRoom_48 (fun H locs hP hD hS => ?_)
                    have hP : va_P D vwCl (pO cZ cI o q (oW ω, up3 Uc ph r (fun _ => false), oB ω, Tc) σ) H := hP
                    have hD : va_D A (pO cZ cI o q (oW ω, up3 Uc ph r (fun _ => false), oB ω, Tc) σ) := hD
                    refine lv_iload_n hx hb dX1_startInOneRoom_49 rfl (lv_at hl 3 rfl) ?_
                    refine lv_aload_n hx hb dX1_startInOneRoom_50 rfl (lv_at hl 1 rfl) ?_
                    refine va_get (D := D) (ci := 0) (v := .int (nI (zN σ))) (C := RX0) (T := TX0) (N := 9) hx hb hts hin0 hown hZ.1 hP 5 rfl rfl 0 (by decide) hf81 (fun _ h9 => h9) rfl dX1_startInOneRoom_51 ?_
                    refine rv_ge (tgt := 77) hx hb (by omega) (by omega) dX1_startInOneRoom_54 (by decide) (fun c54_6 => ?_) (fun c54_6 => ?_)
                    · skip
                      refine lv_iinc (v := nI (r + 1)) (lv' := [(3, .int (nI (r + 1))), (0, .ref (o 0)), (1, .ref (q 0)), (2, .int (nI ph))]) hx hb dX1_startInOneRoom_77 hl (k := 3) rfl (nI_add r 1) (by decide) rfl (fun ls hl => ?_)
                      refine lv_goto (tgt := 32) hx hb dX1_startInOneRoom_80 (by decide) ?_
                      exact ih32 (r + 1) (up3 Uc ph r (fun _ => false)) Tc (by omega) (by omega) (by rw [← hE32, show 8 - r = (8 - (r + 1)) + 1 by omega, s2]; first | rw [if_neg (by assumption)] | rw [if_pos (by assumption), if_pos (by assumption)] | rw [if_pos (by assumption), if_neg (by simp [c6_1, c27_2, c35_3, c54_6]; done)]) _ _ hP hD hS ls (lv_sub hl [1, 2, 3, 0] rfl)
                    · skip
                      refine lv_aload_n hx hb dX1_startInOneRoom_57 rfl (lv_at hl 1 rfl) ?_
                      refine va_get (D := D) (ci := 0) (v := .ref (q 1)) (C := RX0) (T := TX0) (N := 9) hx hb hts hin0 hown hZ.1 hP 5 rfl rfl 1 (by decide) hf77 (fun _ h9 => h9) rfl dX1_startInOneRoom_58 ?_
                      refine lv_iload_n hx hb dX1_startInOneRoom_61 rfl (lv_at hl 3 rfl) ?_
                      refine rv_zald hx hb hZ.1 hP 6 0 rfl rfl (r := r) (by omega) (by decide) (v := bI ((zS σ) r)) rfl dX1_startInOneRoom_62 ?_
                      refine rv_ifneB (tgt := 77) hx hb dX1_startInOneRoom_63 (by decide) (fun c63_7 => ?_) (fun c63_7 => ?_)
                      · skip
                        refine lv_iinc (v := nI (r + 1)) (lv' := [(3, .int (nI (r + 1))), (0, .ref (o 0)), (1, .ref (q 0)), (2, .int (nI ph))]) hx hb dX1_startInOneRoom_77 hl (k := 3) rfl (nI_add r 1) (by decide) rfl (fun ls hl => ?_)
                        refine lv_goto (tgt := 32) hx hb dX1_startInOneRoom_80 (by decide) ?_
                        exact ih32 (r + 1) (up3 Uc ph r (fun _ => false)) Tc (by omega) (by omega) (by rw [← hE32, show 8 - r = (8 - (r + 1)) + 1 by omega, s2]; first | rw [if_neg (by assumption)] | rw [if_pos (by assumption), if_pos (by assumption)] | rw [if_pos (by assumption), if_neg (by simp [c6_1, c27_2, c35_3, c54_6, c63_7]; done)]) _ _ hP hD hS ls (lv_sub hl [1, 2, 3, 0] rfl)
                      · skip
                        refine lv_aload_n hx hb dX1_startInOneRoom_66 rfl (lv_at hl 0 rfl) ?_
                        refine lv_iload_n hx hb dX1_startInOneRoom_67 rfl (lv_at hl 2 rfl) ?_
                        refine lv_iload_n hx hb dX1_startInOneRoom_68 rfl (lv_at hl 3 rfl) ?_
                        refine lv_iload_n hx hb dX1_startInOneRoom_69 rfl (lv_at hl 3 rfl) ?_
                        refine vp_callSi (va_runSN (As := [.int (nI r)]) (rest := [.int (nI r), .int (nI ph), .ref (o 0)]) ⟨hx, hb, hml, hown, hts⟩ (c_X2_bit l D cZ cI   r (by first | assumption | omega)) ⟨va_cnB 1 hts gX1_startInOneRoom_X2_bit_n50 rfl rfl rfl hZ.2.2.2.2.1 (hts (.initialized RX2) (by decide +kernel)) (by decide +kernel) ⟨Nat.le_of_ble_eq_true rfl, Nat.le_of_ble_eq_true rfl⟩, hts (.static yX2_bit) (by decide +kernel), trivial⟩ ⟨RdP_blind, RdP_start (hP.sub (ws' := []) [] rfl) hZ⟩ rfl rfl hl.1 rfl (lv_room (Nat.le_of_ble_eq_true rfl)) dX1_startInOneRoom_70 ⟨Nat.le_of_ble_eq_true rfl, Nat.le_of_ble_eq_true rfl⟩).run (fun r_8 hr_9 => ?_)
                        subst hr_9
                        refine rv_top (show _ = sb (fun i => i == r) from rfl) ?_
                        refine lv_iconst (v := nI 0) hx hb dX1_startInOneRoom_73 (by decide) ?_
                        have hFc := va_free (wc := pO cZ cI o q (oW ω, up3 Uc ph r (fun _ => false), oB ω, Tc) σ) hD hS hA [0, 1, 2, 3, 4, 5, 6, 7, 8, 9, 10, 11, 12] rfl
                        refine va_callv (va_runV (As := [.int (nI ph), .int (nI r), .int (sb (fun i => i == r)), .int (nI 0)]) (rest := []) ⟨hx, hb, hml, hown, hts⟩ (c_X1_keepSure l D cZ cI o q (oW ω, up3 Uc ph r (fun _ => false), oB ω, Tc) σ H.size ph r (fun i => i == r) 0 (by first | assumption | omega) (by first | assumption | omega)) (cwV 4 hts gX1_startInOneRoom_X1_keepSure rfl rfl rfl (by decide +kernel) ⟨Nat.le_of_ble_eq_true rfl, Nat.le_of_ble_eq_true rfl⟩) ⟨WrP_blind, va_recv hZ.1 hP (ci := 1) (q0 := 0) rfl rfl, WrP_start hP hD hZ⟩ rfl rfl hl.1 rfl (lv_room (Nat.le_of_ble_eq_true rfl)) dX1_startInOneRoom_74 ⟨Nat.le_of_ble_eq_true rfl, Nat.le_of_ble_eq_true rfl⟩) hS (fun q _ h => hFc q h) hFc (fun u t H1 locs ht hvm hw hB hz1 hk1 hS => ?_)
                        obtain ⟨hP, hD⟩ := hB
                        rw [ht] at hP
                        replace hD := hD.weaken (fun _ _ _ h => hFc _ h)
                        generalize H1 = H at hP hS ⊢
                        have hP : va_P D vwCl (pO cZ cI o q (oW ω, keepU ((up3 Uc ph r (fun _ => false))) ph r (fun i => i == r), oB ω, kT ph r (fun i => i == r) 0 8 0 (Tc)) σ) H := hP
                        have hD : va_D A (pO cZ cI o q (oW ω, keepU ((up3 Uc ph r (fun _ => false))) ph r (fun i => i == r), oB ω, kT ph r (fun i => i == r) 0 8 0 (Tc)) σ) := hD
                        refine lv_iinc (v := nI (r + 1)) (lv' := [(3, .int (nI (r + 1))), (0, .ref (o 0)), (1, .ref (q 0)), (2, .int (nI ph))]) hx hb dX1_startInOneRoom_77 hl (k := 3) rfl (nI_add r 1) (by decide) rfl (fun ls hl => ?_)
                        refine lv_goto (tgt := 32) hx hb dX1_startInOneRoom_80 (by decide) ?_
                        exact ih32 (r + 1) (keepU ((up3 Uc ph r (fun _ => false))) ph r (fun i => i == r)) (kT ph r (fun i => i == r) 0 8 0 (Tc)) (by omega) (by omega) (by rw [← hE32, show 8 - r = (8 - (r + 1)) + 1 by omega, s2]; first | rw [if_neg (by assumption)] | rw [if_pos (by assumption), if_pos (by assumption)] | rw [if_pos (by assumption), if_neg (by simp [c6_1, c27_2, c35_3, c54_6, c63_7]; done)]) _ _ hP hD hS ls (lv_sub hl [1, 2, 3, 0] rfl)
              exact loop32 (8 + 1) 0 Ub Tb (by omega) (by omega) rfl _ _ hP hD hS ls (lv_sub hl [1, 2, 3, 0] rfl)
        exact loop24 (12 + 1) 0 (oU ω) Ta (by omega) (by omega) (congrArg (fun z => s3 σ 12 0 (oU ω, z)) (show Ta = s1 768 0 (oT ω) from by rw [← hE2, show 768 - i = 0 by omega]; rfl)) _ _ hP hD hS ls (lv_sub hl [1, 2, 0] rfl)
      · skip
        refine lv_aload_n hx hb dX1_startInOneRoom_9 rfl (lv_at hl 0 rfl) ?_
        refine va_get (D := D) (ci := 1) (v := .ref (o 4)) (C := RX1) (T := TX1) (N := 4) hx hb hts hin1 hown hZ.1 hP 0 rfl rfl 3 (by decide) hf21 (fun _ h9 => h9) rfl dX1_startInOneRoom_10 ?_
        refine lv_iload_n hx hb dX1_startInOneRoom_13 rfl (lv_at hl 2 rfl) ?_
        refine lv_iconst (v := (-1)) hx hb dX1_startInOneRoom_14 (by decide) ?_
        refine rv_top (show (-1 : Int32) = iO none from rfl) ?_
        refine rv_iast hx hb hZ.1 hP hD hS 4 1 rfl rfl (r := i) (by omega) (by decide) (encT_upT _ _ _) dX1_startInOneRoom_15 (fun H locs hP hD hS => ?_)
        have hP : va_P D vwCl (pO cZ cI o q (oW ω, oU ω, oB ω, upT Ta i none) σ) H := hP
        have hD : va_D A (pO cZ cI o q (oW ω, oU ω, oB ω, upT Ta i none) σ) := hD
        refine lv_iinc (v := nI (i + 1)) (lv' := [(2, .int (nI (i + 1))), (0, .ref (o 0)), (1, .ref (q 0))]) hx hb dX1_startInOneRoom_16 hl (k := 2) rfl (nI_add i 1) (by decide) rfl (fun ls hl => ?_)
        refine lv_goto (tgt := 2) hx hb dX1_startInOneRoom_19 (by decide) ?_
        exact ih2 (i + 1) (upT Ta i none) (by omega) (by omega) (by rw [← hE2, show 768 - i = (768 - (i + 1)) + 1 by omega, s1]) _ _ hP hD hS ls (lv_sub hl [1, 2, 0] rfl)
  exact loop2 (768 + 1) 0 (oT ω) (by omega) (by omega) rfl _ _ hP hD hS ls (lv_sub hl [1, 2, 0] rfl)

set_option maxHeartbeats 4000000 in
set_option maxRecDepth 100000 in
theorem c_X1_lookOneTurnFarther (l : Launch) (D : va_G) (cZ cI : ClassId) (o : Nat → Nat) (q : Nat → Nat) (ω : OS) (σ : HS) (sz : Nat) (tn : Nat) (hσ : zOk σ) : Met l yX1_lookOneTurnFarther wsX1_lookOneTurnFarther ({ frames := 2, cells := 0, slots := 0, locals := 47 }) (WrP D cZ cI [.ref (o 0), .ref (q 0), .int (nI tn)] (pO cZ cI o q ω σ) sz) (WrI D (pO cZ cI o q (oW ω, (lt3 (oW ω) (oB ω) σ tn 12 0 (oU ω, oT ω, false)).1, oB ω, (lt3 (oW ω) (oB ω) σ tn 12 0 (oU ω, oT ω, false)).2.1) σ) (va_A (pO cZ cI o q ω σ) sz) (bI ((lt3 (oW ω) (oB ω) σ tn 12 0 (oU ω, oT ω, false)).2.2))) 0 0 (va_A (pO cZ cI o q ω σ) sz) := by
  refine Met.ofW (cc := cX1_lookOneTurnFarther) (maxL := 8) (ret := (some .boolean)) (by decide) rfl ?_
  intro p e s m args below meth c s₁ B hml hv
  obtain ⟨rfl, hsz, hP, hZ, hD0⟩ := hv
  have hx := B.exec
  have hb := B.bytes
  have hr := B.returns
  have hts := atoms_spec (ws := wsX1_lookOneTurnFarther) B.pre
  have hown : s.vm.findClass RX1 = some m.cls := findClass_of_methodNamed B.named
  have hlocks := B.notSynchronized
  subst hsz
  have hD := hD0.self (sz := s.heap.size)
  generalize hAe : va_A (pO cZ cI o q ω σ) s.heap.size = A at hD ⊢
  have hA : ∀ q : Nat, s.heap.size ≤ q → A q := fun q h => by rw [← hAe]; exact Or.inr h
  have hS : va_S A s.heap s.heap [] := va_S.rf
  have hP : va_P D vwCl (pO cZ cI o q ω σ) s.heap := hP
  have hl := lv_entry ([.ref (o 0), .ref (q 0), .int (nI tn)]) (n := 8) (Nat.le_of_ble_eq_true rfl)
  rw [lg_entry_eq]
  generalize (lg_sl ([.ref (o 0), .ref (q 0), .int (nI tn)]) ++ List.replicate (8 - (lg_sl ([.ref (o 0), .ref (q 0), .int (nI tn)])).length) Slot.unset).toArray = ls at hl ⊢
  have hl : lv_has ls 8 [(0, .ref (o 0)), (1, .ref (q 0)), (2, .int (nI tn))] := hl
  have hin0 : ∀ w ∈ u_ws RX0 TX0 9, w ∈ wsX1_lookOneTurnFarther := by decide +kernel
  have hin1 : ∀ w ∈ u_ws RX1 TX1 4, w ∈ wsX1_lookOneTurnFarther := by decide +kernel
  have hf18 := hts (.fieldLink RX1 18 "DoorChase$Outlook" "sureBefore" "[I") (by decide +kernel)
  have hf77 := hts (.fieldLink RX1 77 "DoorChase$House" "safe" "[Z") (by decide +kernel)
  have hf81 := hts (.fieldLink RX1 81 "DoorChase$House" "roomCount" "I") (by decide +kernel)
  obtain ⟨hσ1, hσ2, hσ3, hσ4, hσ5, hσ6, hσ7⟩ := id hσ
  refine lv_iconst (v := nI 0) hx hb dX1_lookOneTurnFarther_0 (by decide) ?_
  refine rv_top (show nI 0 = bI false from rfl) ?_
  refine lv_istore_n (lv' := [(3, .int (bI false)), (0, .ref (o 0)), (1, .ref (q 0)), (2, .int (nI tn))]) hx hb dX1_lookOneTurnFarther_1 rfl hl (by decide) rfl (fun ls hl => ?_)
  refine lv_iconst (v := nI 0) hx hb dX1_lookOneTurnFarther_2 (by decide) ?_
  refine lv_istore (lv' := [(4, .int (nI 0)), (3, .int (bI false)), (0, .ref (o 0)), (1, .ref (q 0)), (2, .int (nI tn))]) hx hb dX1_lookOneTurnFarther_3 hl (by decide) rfl (fun ls hl => ?_)
  have loop5 : ∀ (n : Nat) (ph : Nat) (Ua : Nat → Nat → Nat → Bool) (Ta : Nat → Nat → Nat → Option Nat) (ba : Bool), 12 + 1 ≤ ph + n → (ph ≤ 12) → (lt3 (oW ω) (oB ω) σ tn (12 - ph) ph (Ua, Ta, ba) = lt3 (oW ω) (oB ω) σ tn 12 0 (oU ω, oT ω, false)) → ∀ (H : Heap) (locs : List Loc), va_P D vwCl (pO cZ cI o q (oW ω, Ua, oB ω, Ta) σ) H → va_D A (pO cZ cI o q (oW ω, Ua, oB ω, Ta) σ) → va_S A s.heap H locs → ∀ (ls : Array Slot), lv_has ls 8 [(0, .ref (o 0)), (1, .ref (q 0)), (2, .int (nI tn)), (3, .int (bI ba)), (4, .int (nI ph))] → W p l e (headSpec wsX1_lookOneTurnFarther ({ frames := 2, cells := 0, slots := 0, locals := 47 })).room s m ([.ref (o 0), .ref (q 0), .int (nI tn)] : List Value).toArray below meth c H locs 0 0 (MQ below (WrI D (pO cZ cI o q (oW ω, (lt3 (oW ω) (oB ω) σ tn 12 0 (oU ω, oT ω, false)).1, oB ω, (lt3 (oW ω) (oB ω) σ tn 12 0 (oU ω, oT ω, false)).2.1) σ) A (bI ((lt3 (oW ω) (oB ω) σ tn 12 0 (oU ω, oT ω, false)).2.2))) ([.ref (o 0), .ref (q 0), .int (nI tn)] : List Value).toArray s 0 0 A) (F0 m 5 ls []) := by
    intro n
    induction n with
    | zero =>
      intro ph Ua Ta ba hmeas hp hE5 H locs hP hD hS ls hl
      exact absurd hmeas (by omega)
    | succ n ih5 =>
      intro ph Ua Ta ba hmeas hp hE5 H locs hP hD hS ls hl
      refine lv_iload hx hb dX1_lookOneTurnFarther_5 (lv_at hl 4 rfl) ?_
      refine lv_bipush (v := nI 12) hx hb dX1_lookOneTurnFarther_7 (by decide) ?_
      refine rv_ge (tgt := 113) hx hb (by omega) (by omega) dX1_lookOneTurnFarther_9 (by decide) (fun c9_1 => ?_) (fun c9_1 => ?_)
      · skip
        refine lv_iload_n hx hb dX1_lookOneTurnFarther_113 rfl (lv_at hl 3 rfl) ?_
        have hP9 : va_P D vwCl (pO cZ cI o q (oW ω, (lt3 (oW ω) (oB ω) σ tn 12 0 (oU ω, oT ω, false)).1, oB ω, (lt3 (oW ω) (oB ω) σ tn 12 0 (oU ω, oT ω, false)).2.1) σ) H := by (rw [show lt3 (oW ω) (oB ω) σ tn 12 0 (oU ω, oT ω, false) = (Ua, Ta, ba) from by rw [← hE5, show 12 - ph = 0 by omega]; rfl]; exact hP)
        have hD9 : va_D A (pO cZ cI o q (oW ω, (lt3 (oW ω) (oB ω) σ tn 12 0 (oU ω, oT ω, false)).1, oB ω, (lt3 (oW ω) (oB ω) σ tn 12 0 (oU ω, oT ω, false)).2.1) σ) := by (rw [show lt3 (oW ω) (oB ω) σ tn 12 0 (oU ω, oT ω, false) = (Ua, Ta, ba) from by rw [← hE5, show 12 - ph = 0 by omega]; rfl]; exact hD)
        exact W.zret (v := bI ba) hx hb hr (nr_bI _) (fun t ht hW => ⟨⟨_, (), rfl, (show bI ba = bI ((lt3 (oW ω) (oB ω) σ tn 12 0 (oU ω, oT ω, false)).2.2) from by rw [show lt3 (oW ω) (oB ω) σ tn 12 0 (oU ω, oT ω, false) = (Ua, Ta, ba) from by rw [← hE5, show 12 - ph = 0 by omega]; rfl]), by rw [ht]; exact hP9, hD9⟩, hS.F ht⟩) hS.2.2 dX1_lookOneTurnFarther_114
      · skip
        refine lv_iconst (v := nI 0) hx hb dX1_lookOneTurnFarther_12 (by decide) ?_
        refine lv_istore (lv' := [(5, .int (nI 0)), (0, .ref (o 0)), (1, .ref (q 0)), (2, .int (nI tn)), (3, .int (bI ba)), (4, .int (nI ph))]) hx hb dX1_lookOneTurnFarther_13 hl (by decide) rfl (fun ls hl => ?_)
        have loop15 : ∀ (n : Nat) (r : Nat) (Ub : Nat → Nat → Nat → Bool) (Tb : Nat → Nat → Nat → Option Nat) (bb : Bool), zN σ + 1 ≤ r + n → (r ≤ zN σ) → (lt2 (oW ω) (oB ω) σ tn ph (zN σ - r) r (Ub, Tb, bb) = lt2 (oW ω) (oB ω) σ tn ph (zN σ) 0 (Ua, Ta, ba)) → ∀ (H : Heap) (locs : List Loc), va_P D vwCl (pO cZ cI o q (oW ω, Ub, oB ω, Tb) σ) H → va_D A (pO cZ cI o q (oW ω, Ub, oB ω, Tb) σ) → va_S A s.heap H locs → ∀ (ls : Array Slot), lv_has ls 8 [(0, .ref (o 0)), (1, .ref (q 0)), (2, .int (nI tn)), (3, .int (bI bb)), (4, .int (nI ph)), (5, .int (nI r))] → W p l e (headSpec wsX1_lookOneTurnFarther ({ frames := 2, cells := 0, slots := 0, locals := 47 })).room s m ([.ref (o 0), .ref (q 0), .int (nI tn)] : List Value).toArray below meth c H locs 0 0 (MQ below (WrI D (pO cZ cI o q (oW ω, (lt3 (oW ω) (oB ω) σ tn 12 0 (oU ω, oT ω, false)).1, oB ω, (lt3 (oW ω) (oB ω) σ tn 12 0 (oU ω, oT ω, false)).2.1) σ) A (bI ((lt3 (oW ω) (oB ω) σ tn 12 0 (oU ω, oT ω, false)).2.2))) ([.ref (o 0), .ref (q 0), .int (nI tn)] : List Value).toArray s 0 0 A) (F0 m 15 ls []) := by
          intro n
          induction n with
          | zero =>
            intro r Ub Tb bb hmeas hr8 hE15 H locs hP hD hS ls hl
            exact absurd hmeas (by omega)
          | succ n ih15 =>
            intro r Ub Tb bb hmeas hr8 hE15 H locs hP hD hS ls hl
            refine lv_iload hx hb dX1_lookOneTurnFarther_15 (lv_at hl 5 rfl) ?_
            refine lv_aload_n hx hb dX1_lookOneTurnFarther_17 rfl (lv_at hl 1 rfl) ?_
            refine va_get (D := D) (ci := 0) (v := .int (nI (zN σ))) (C := RX0) (T := TX0) (N := 9) hx hb hts hin0 hown hZ.1 hP 5 rfl rfl 0 (by decide) hf81 (fun _ h9 => h9) rfl dX1_lookOneTurnFarther_18 ?_
            refine rv_ge (tgt := 107) hx hb (by omega) (by omega) dX1_lookOneTurnFarther_21 (by decide) (fun c21_2 => ?_) (fun c21_2 => ?_)
            · skip
              refine lv_iinc (v := nI (ph + 1)) (lv' := [(4, .int (nI (ph + 1))), (0, .ref (o 0)), (1, .ref (q 0)), (2, .int (nI tn)), (3, .int (bI bb)), (5, .int (nI r))]) hx hb dX1_lookOneTurnFarther_107 hl (k := 4) rfl (nI_add ph 1) (by decide) rfl (fun ls hl => ?_)
              refine lv_goto (tgt := 5) hx hb dX1_lookOneTurnFarther_110 (by decide) ?_
              exact ih5 (ph + 1) Ub Tb bb (by omega) (by omega) (by rw [← hE5, show 12 - ph = (12 - (ph + 1)) + 1 by omega, lt3, ← hE15, show zN σ - r = 0 by omega]; rfl) _ _ hP hD hS ls (lv_sub hl [1, 2, 3, 4, 0] rfl)
            · skip
              refine lv_iload hx hb dX1_lookOneTurnFarther_24 (lv_at hl 4 rfl) ?_
              refine vp_callSi (va_runSN (As := [.int (nI ph)]) (rest := []) ⟨hx, hb, hml, hown, hts⟩ (c_X2_isCatsPhase l D cZ cI   ph (by first | assumption | omega)) ⟨va_cnB 1 hts gX1_lookOneTurnFarther_X2_isCatsPhase_n73 rfl rfl rfl hZ.2.2.2.2.2.1 (hts (.initialized RX2) (by decide +kernel)) (by decide +kernel) ⟨Nat.le_of_ble_eq_true rfl, Nat.le_of_ble_eq_true rfl⟩, hts (.static yX2_isCatsPhase) (by decide +kernel), trivial⟩ ⟨RdP_blind, RdP_start (hP.sub (ws' := []) [] rfl) hZ⟩ rfl rfl hl.1 rfl (lv_room (Nat.le_of_ble_eq_true rfl)) dX1_lookOneTurnFarther_26 ⟨Nat.le_of_ble_eq_true rfl, Nat.le_of_ble_eq_true rfl⟩).run (fun r_3 hr_4 => ?_)
              subst hr_4
              refine rv_top (show _ = bI (isC ph) from rfl) ?_
              refine rv_ifeqB (tgt := 43) hx hb dX1_lookOneTurnFarther_29 (by decide) (fun c29_5 => ?_) (fun c29_5 => ?_)
              · skip
                refine lv_aload_n hx hb dX1_lookOneTurnFarther_43 rfl (lv_at hl 0 rfl) ?_
                refine lv_aload_n hx hb dX1_lookOneTurnFarther_44 rfl (lv_at hl 1 rfl) ?_
                refine lv_iload hx hb dX1_lookOneTurnFarther_45 (lv_at hl 4 rfl) ?_
                refine lv_iload hx hb dX1_lookOneTurnFarther_47 (lv_at hl 5 rfl) ?_
                refine vp_callSi (va_runV (As := [.ref (q 0), .int (nI ph), .int (nI r)]) (rest := []) ⟨hx, hb, hml, hown, hts⟩ (c_X1_sureIfMouseGoes l D cZ cI o q (oW ω, Ub, oB ω, Tb) σ  ph r (by first | assumption | omega) (by first | assumption | omega) (by first | assumption | omega)) (cwV 3 hts gX1_lookOneTurnFarther_X1_sureIfMouseGoes rfl rfl rfl (by decide +kernel) ⟨Nat.le_of_ble_eq_true rfl, Nat.le_of_ble_eq_true rfl⟩) ⟨RdP_blind, va_recv hZ.1 hP (ci := 1) (q0 := 0) rfl rfl, RdP_start (hP.sub (ws' := pO cZ cI o q (oW ω, Ub, oB ω, Tb) σ) [0, 1, 2, 3, 4, 5, 6, 7, 8, 9, 10, 11, 12] rfl) hZ⟩ rfl rfl hl.1 rfl (lv_room (Nat.le_of_ble_eq_true rfl)) dX1_lookOneTurnFarther_49 ⟨Nat.le_of_ble_eq_true rfl, Nat.le_of_ble_eq_true rfl⟩).run (fun r_6 hr_7 => ?_)
                subst hr_7
                refine rv_top (show _ = sb (oMouse ((oW ω)) ((oB ω)) ((zN σ)) ph r) from rfl) ?_
                refine lv_istore (lv' := [(6, .int (sb (oMouse ((oW ω)) ((oB ω)) ((zN σ)) ph r))), (0, .ref (o 0)), (1, .ref (q 0)), (2, .int (nI tn)), (3, .int (bI bb)), (4, .int (nI ph)), (5, .int (nI r))]) hx hb dX1_lookOneTurnFarther_52 hl (by decide) rfl (fun ls hl => ?_)
                refine lv_iload hx hb dX1_lookOneTurnFarther_54 (lv_at hl 0 rfl) ?_
                refine lv_aload_n hx hb dX1_lookOneTurnFarther_56 rfl (lv_at hl 1 rfl) ?_
                refine va_get (D := D) (ci := 1) (v := .ref (o 3)) (C := RX1) (T := TX1) (N := 4) hx hb hts hin1 hown hZ.1 hP 0 rfl rfl 2 (by decide) hf18 (fun _ h9 => h9) rfl dX1_lookOneTurnFarther_57 ?_
                refine lv_iload hx hb dX1_lookOneTurnFarther_60 (lv_at hl 5 rfl) ?_
                refine lv_iload hx hb dX1_lookOneTurnFarther_62 (lv_at hl 6 rfl) ?_
                refine vp_callSi (va_runS (As := [.int (nI ph), .int (nI r)]) (rest := [.ref (o 3), .int (sb (oMouse ((oW ω)) ((oB ω)) ((zN σ)) ph r))]) ⟨hx, hb, hml, hown, hts⟩ (c_X1_placeOf l D cZ cI   ph r ) (va_cwS 2 hts gX1_lookOneTurnFarther_X1_placeOf rfl rfl rfl (by decide +kernel) ⟨Nat.le_of_ble_eq_true rfl, Nat.le_of_ble_eq_true rfl⟩) ⟨RdP_blind, RdP_start (hP.sub (ws' := []) [] rfl) hZ⟩ rfl rfl hl.1 rfl (lv_room (Nat.le_of_ble_eq_true rfl)) dX1_lookOneTurnFarther_64 ⟨Nat.le_of_ble_eq_true rfl, Nat.le_of_ble_eq_true rfl⟩).run (fun r_8 hr_9 => ?_)
                subst hr_9
                refine rv_top (show _ = nI (ph * 8 + r) from rfl) ?_
                refine rv_iald hx hb hZ.1 hP 3 1 rfl rfl (r := ph * 8 + r) (by omega) (by decide) (v := sb ((oB ω) ph r)) (encW_at _ ph (by omega)) dX1_lookOneTurnFarther_67 ?_
                refine lv_iconst (v := (-1)) hx hb dX1_lookOneTurnFarther_68 (by decide) ?_
                refine lv_ixor hx hb dX1_lookOneTurnFarther_69 ?_
                refine rv_andnS hx hb dX1_lookOneTurnFarther_70 ?_
                refine lv_istore (lv' := [(7, .int (sb (fun i => (oMouse ((oW ω)) ((oB ω)) ((zN σ)) ph r) i && !((oB ω) ph r) i))), (6, .int (sb (oMouse ((oW ω)) ((oB ω)) ((zN σ)) ph r))), (0, .ref (o 0)), (1, .ref (q 0)), (2, .int (nI tn)), (3, .int (bI bb)), (4, .int (nI ph)), (5, .int (nI r))]) hx hb dX1_lookOneTurnFarther_71 hl (by decide) rfl (fun ls hl => ?_)
                refine lv_iload hx hb dX1_lookOneTurnFarther_73 (lv_at hl 0 rfl) ?_
                refine rv_ifeqS (tgt := 101) hx hb dX1_lookOneTurnFarther_75 (by decide) (fun c75_10 => ?_) (fun c75_10 => ?_)
                · skip
                  refine lv_iinc (v := nI (r + 1)) (lv' := [(5, .int (nI (r + 1))), (7, .int (sb (fun i => (oMouse ((oW ω)) ((oB ω)) ((zN σ)) ph r) i && !((oB ω) ph r) i))), (6, .int (sb (oMouse ((oW ω)) ((oB ω)) ((zN σ)) ph r))), (0, .ref (o 0)), (1, .ref (q 0)), (2, .int (nI tn)), (3, .int (bI bb)), (4, .int (nI ph))]) hx hb dX1_lookOneTurnFarther_101 hl (k := 7) rfl (nI_add r 1) (by decide) rfl (fun ls hl => ?_)
                  refine lv_goto (tgt := 15) hx hb dX1_lookOneTurnFarther_104 (by decide) ?_
                  exact ih15 (r + 1) Ub Tb bb (by omega) (by omega) (by rw [← hE15, show zN σ - r = (zN σ - (r + 1)) + 1 by omega, lt2]; (first | rw [ltNew_c (by assumption)] | rw [ltNew_m (by assumption)]); first | rw [if_pos (by assumption)] | rw [if_neg (by assumption), if_pos (by assumption)] | rw [if_neg (by assumption), if_neg (by simp [c9_1, c21_2, c29_5, c75_10]; done)]) _ _ hP hD hS ls (lv_sub hl [3, 4, 5, 6, 7, 0] rfl)
                · skip
                  refine lv_aload_n hx hb dX1_lookOneTurnFarther_78 rfl (lv_at hl 3 rfl) ?_
                  refine va_get (D := D) (ci := 0) (v := .ref (q 1)) (C := RX0) (T := TX0) (N := 9) hx hb hts hin0 hown hZ.1 hP 5 rfl rfl 1 (by decide) hf77 (fun _ h9 => h9) rfl dX1_lookOneTurnFarther_79 ?_
                  refine lv_iload hx hb dX1_lookOneTurnFarther_82 (lv_at hl 7 rfl) ?_
                  refine rv_zald hx hb hZ.1 hP 6 0 rfl rfl (r := r) (by omega) (by decide) (v := bI ((zS σ) r)) rfl dX1_lookOneTurnFarther_84 ?_
                  refine rv_ifneB (tgt := 101) hx hb dX1_lookOneTurnFarther_85 (by decide) (fun c85_11 => ?_) (fun c85_11 => ?_)
                  · skip
                    refine lv_iinc (v := nI (r + 1)) (lv' := [(5, .int (nI (r + 1))), (7, .int (sb (fun i => (oMouse ((oW ω)) ((oB ω)) ((zN σ)) ph r) i && !((oB ω) ph r) i))), (6, .int (sb (oMouse ((oW ω)) ((oB ω)) ((zN σ)) ph r))), (0, .ref (o 0)), (1, .ref (q 0)), (2, .int (nI tn)), (3, .int (bI bb)), (4, .int (nI ph))]) hx hb dX1_lookOneTurnFarther_101 hl (k := 7) rfl (nI_add r 1) (by decide) rfl (fun ls hl => ?_)
                    refine lv_goto (tgt := 15) hx hb dX1_lookOneTurnFarther_104 (by decide) ?_
                    exact ih15 (r + 1) Ub Tb bb (by omega) (by omega) (by rw [← hE15, show zN σ - r = (zN σ - (r + 1)) + 1 by omega, lt2]; (first | rw [ltNew_c (by assumption)] | rw [ltNew_m (by assumption)]); first | rw [if_pos (by assumption)] | rw [if_neg (by assumption), if_pos (by assumption)] | rw [if_neg (by assumption), if_neg (by simp [c9_1, c21_2, c29_5, c75_10, c85_11]; done)]) _ _ hP hD hS ls (lv_sub hl [3, 4, 5, 6, 7, 0] rfl)
                  · skip
                    refine lv_aload_n hx hb dX1_lookOneTurnFarther_88 rfl (lv_at hl 2 rfl) ?_
                    refine lv_iload hx hb dX1_lookOneTurnFarther_89 (lv_at hl 6 rfl) ?_
                    refine lv_iload hx hb dX1_lookOneTurnFarther_91 (lv_at hl 7 rfl) ?_
                    refine lv_iload hx hb dX1_lookOneTurnFarther_93 (lv_at hl 0 rfl) ?_
                    refine lv_iload_n hx hb dX1_lookOneTurnFarther_95 rfl (lv_at hl 4 rfl) ?_
                    have hFc := va_free (wc := pO cZ cI o q (oW ω, Ub, oB ω, Tb) σ) hD hS hA [0, 1, 2, 3, 4, 5, 6, 7, 8, 9, 10, 11, 12] rfl
                    refine va_callv (va_runV (As := [.int (nI ph), .int (nI r), .int (sb (fun i => (oMouse ((oW ω)) ((oB ω)) ((zN σ)) ph r) i && !((oB ω) ph r) i)), .int (nI tn)]) (rest := []) ⟨hx, hb, hml, hown, hts⟩ (c_X1_keepSure l D cZ cI o q (oW ω, Ub, oB ω, Tb) σ H.size ph r (fun i => (oMouse ((oW ω)) ((oB ω)) ((zN σ)) ph r) i && !((oB ω) ph r) i) tn (by first | assumption | omega) (by first | assumption | omega)) (cwV 4 hts gX1_lookOneTurnFarther_X1_keepSure rfl rfl rfl (by decide +kernel) ⟨Nat.le_of_ble_eq_true rfl, Nat.le_of_ble_eq_true rfl⟩) ⟨WrP_blind, va_recv hZ.1 hP (ci := 1) (q0 := 0) rfl rfl, WrP_start hP hD hZ⟩ rfl rfl hl.1 rfl (lv_room (Nat.le_of_ble_eq_true rfl)) dX1_lookOneTurnFarther_96 ⟨Nat.le_of_ble_eq_true rfl, Nat.le_of_ble_eq_true rfl⟩) hS (fun q _ h => hFc q h) hFc (fun u t H1 locs ht hvm hw hB hz1 hk1 hS => ?_)
                    obtain ⟨hP, hD⟩ := hB
                    rw [ht] at hP
                    replace hD := hD.weaken (fun _ _ _ h => hFc _ h)
                    generalize H1 = H at hP hS ⊢
                    have hP : va_P D vwCl (pO cZ cI o q (oW ω, keepU (Ub) ph r (fun i => (oMouse ((oW ω)) ((oB ω)) ((zN σ)) ph r) i && !((oB ω) ph r) i), oB ω, kT ph r (fun i => (oMouse ((oW ω)) ((oB ω)) ((zN σ)) ph r) i && !((oB ω) ph r) i) tn 8 0 (Tb)) σ) H := hP
                    have hD : va_D A (pO cZ cI o q (oW ω, keepU (Ub) ph r (fun i => (oMouse ((oW ω)) ((oB ω)) ((zN σ)) ph r) i && !((oB ω) ph r) i), oB ω, kT ph r (fun i => (oMouse ((oW ω)) ((oB ω)) ((zN σ)) ph r) i && !((oB ω) ph r) i) tn 8 0 (Tb)) σ) := hD
                    refine lv_iconst (v := nI 1) hx hb dX1_lookOneTurnFarther_99 (by decide) ?_
                    refine rv_top (show nI 1 = bI true from rfl) ?_
                    refine lv_istore_n (lv' := [(3, .int (bI true)), (7, .int (sb (fun i => (oMouse ((oW ω)) ((oB ω)) ((zN σ)) ph r) i && !((oB ω) ph r) i))), (6, .int (sb (oMouse ((oW ω)) ((oB ω)) ((zN σ)) ph r))), (0, .ref (o 0)), (1, .ref (q 0)), (2, .int (nI tn)), (4, .int (nI ph)), (5, .int (nI r))]) hx hb dX1_lookOneTurnFarther_100 rfl hl (by decide) rfl (fun ls hl => ?_)
                    refine lv_iinc (v := nI (r + 1)) (lv' := [(5, .int (nI (r + 1))), (3, .int (bI true)), (7, .int (sb (fun i => (oMouse ((oW ω)) ((oB ω)) ((zN σ)) ph r) i && !((oB ω) ph r) i))), (6, .int (sb (oMouse ((oW ω)) ((oB ω)) ((zN σ)) ph r))), (0, .ref (o 0)), (1, .ref (q 0)), (2, .int (nI tn)), (4, .int (nI ph))]) hx hb dX1_lookOneTurnFarther_101 hl (k := 7) rfl (nI_add r 1) (by decide) rfl (fun ls hl => ?_)
                    refine lv_goto (tgt := 15) hx hb dX1_lookOneTurnFarther_104 (by decide) ?_
                    exact ih15 (r + 1) (keepU (Ub) ph r (fun i => (oMouse ((oW ω)) ((oB ω)) ((zN σ)) ph r) i && !((oB ω) ph r) i)) (kT ph r (fun i => (oMouse ((oW ω)) ((oB ω)) ((zN σ)) ph r) i && !((oB ω) ph r) i) tn 8 0 (Tb)) true (by omega) (by omega) (by rw [← hE15, show zN σ - r = (zN σ - (r + 1)) + 1 by omega, lt2]; (first | rw [ltNew_c (by assumption)] | rw [ltNew_m (by assumption)]); first | rw [if_pos (by assumption)] | rw [if_neg (by assumption), if_pos (by assumption)] | rw [if_neg (by assumption), if_neg (by simp [c9_1, c21_2, c29_5, c75_10, c85_11]; done)]) _ _ hP hD hS ls (lv_sub hl [4, 5, 6, 1, 7, 0] rfl)
              · skip
                refine lv_aload_n hx hb dX1_lookOneTurnFarther_32 rfl (lv_at hl 0 rfl) ?_
                refine lv_iload hx hb dX1_lookOneTurnFarther_33 (lv_at hl 4 rfl) ?_
                refine lv_iload hx hb dX1_lookOneTurnFarther_35 (lv_at hl 5 rfl) ?_
                refine vp_callSi (va_runV (As := [.int (nI ph), .int (nI r)]) (rest := []) ⟨hx, hb, hml, hown, hts⟩ (c_X1_sureIfCatGoes l D cZ cI o q (oW ω, Ub, oB ω, Tb) σ  ph r (by first | assumption | omega) (by first | assumption | omega)) (cwV 2 hts gX1_lookOneTurnFarther_X1_sureIfCatGoes rfl rfl rfl (by decide +kernel) ⟨Nat.le_of_ble_eq_true rfl, Nat.le_of_ble_eq_true rfl⟩) ⟨RdP_blind, va_recv hZ.1 hP (ci := 1) (q0 := 0) rfl rfl, RdP_start (hP.sub (ws' := pO cZ cI o q (oW ω, Ub, oB ω, Tb) σ) [0, 1, 2, 3, 4, 5, 6, 7, 8, 9, 10, 11, 12] rfl) hZ⟩ rfl rfl hl.1 rfl (lv_room (Nat.le_of_ble_eq_true rfl)) dX1_lookOneTurnFarther_37 ⟨Nat.le_of_ble_eq_true rfl, Nat.le_of_ble_eq_true rfl⟩).run (fun r_12 hr_13 => ?_)
                subst hr_13
                refine rv_top (show _ = sb (oCat ((oW ω)) ((oB ω)) ph r) from rfl) ?_
                refine lv_goto (tgt := 52) hx hb dX1_lookOneTurnFarther_40 (by decide) ?_
                refine lv_istore (lv' := [(6, .int (sb (oCat ((oW ω)) ((oB ω)) ph r))), (0, .ref (o 0)), (1, .ref (q 0)), (2, .int (nI tn)), (3, .int (bI bb)), (4, .int (nI ph)), (5, .int (nI r))]) hx hb dX1_lookOneTurnFarther_52 hl (by decide) rfl (fun ls hl => ?_)
                refine lv_iload hx hb dX1_lookOneTurnFarther_54 (lv_at hl 0 rfl) ?_
                refine lv_aload_n hx hb dX1_lookOneTurnFarther_56 rfl (lv_at hl 1 rfl) ?_
                refine va_get (D := D) (ci := 1) (v := .ref (o 3)) (C := RX1) (T := TX1) (N := 4) hx hb hts hin1 hown hZ.1 hP 0 rfl rfl 2 (by decide) hf18 (fun _ h9 => h9) rfl dX1_lookOneTurnFarther_57 ?_
                refine lv_iload hx hb dX1_lookOneTurnFarther_60 (lv_at hl 5 rfl) ?_
                refine lv_iload hx hb dX1_lookOneTurnFarther_62 (lv_at hl 6 rfl) ?_
                refine vp_callSi (va_runS (As := [.int (nI ph), .int (nI r)]) (rest := [.ref (o 3), .int (sb (oCat ((oW ω)) ((oB ω)) ph r))]) ⟨hx, hb, hml, hown, hts⟩ (c_X1_placeOf l D cZ cI   ph r ) (va_cwS 2 hts gX1_lookOneTurnFarther_X1_placeOf rfl rfl rfl (by decide +kernel) ⟨Nat.le_of_ble_eq_true rfl, Nat.le_of_ble_eq_true rfl⟩) ⟨RdP_blind, RdP_start (hP.sub (ws' := []) [] rfl) hZ⟩ rfl rfl hl.1 rfl (lv_room (Nat.le_of_ble_eq_true rfl)) dX1_lookOneTurnFarther_64 ⟨Nat.le_of_ble_eq_true rfl, Nat.le_of_ble_eq_true rfl⟩).run (fun r_14 hr_15 => ?_)
                subst hr_15
                refine rv_top (show _ = nI (ph * 8 + r) from rfl) ?_
                refine rv_iald hx hb hZ.1 hP 3 1 rfl rfl (r := ph * 8 + r) (by omega) (by decide) (v := sb ((oB ω) ph r)) (encW_at _ ph (by omega)) dX1_lookOneTurnFarther_67 ?_
                refine lv_iconst (v := (-1)) hx hb dX1_lookOneTurnFarther_68 (by decide) ?_
                refine lv_ixor hx hb dX1_lookOneTurnFarther_69 ?_
                refine rv_andnS hx hb dX1_lookOneTurnFarther_70 ?_
                refine lv_istore (lv' := [(7, .int (sb (fun i => (oCat ((oW ω)) ((oB ω)) ph r) i && !((oB ω) ph r) i))), (6, .int (sb (oCat ((oW ω)) ((oB ω)) ph r))), (0, .ref (o 0)), (1, .ref (q 0)), (2, .int (nI tn)), (3, .int (bI bb)), (4, .int (nI ph)), (5, .int (nI r))]) hx hb dX1_lookOneTurnFarther_71 hl (by decide) rfl (fun ls hl => ?_)
                refine lv_iload hx hb dX1_lookOneTurnFarther_73 (lv_at hl 0 rfl) ?_
                refine rv_ifeqS (tgt := 101) hx hb dX1_lookOneTurnFarther_75 (by decide) (fun c75_16 => ?_) (fun c75_16 => ?_)
                · skip
                  refine lv_iinc (v := nI (r + 1)) (lv' := [(5, .int (nI (r + 1))), (7, .int (sb (fun i => (oCat ((oW ω)) ((oB ω)) ph r) i && !((oB ω) ph r) i))), (6, .int (sb (oCat ((oW ω)) ((oB ω)) ph r))), (0, .ref (o 0)), (1, .ref (q 0)), (2, .int (nI tn)), (3, .int (bI bb)), (4, .int (nI ph))]) hx hb dX1_lookOneTurnFarther_101 hl (k := 7) rfl (nI_add r 1) (by decide) rfl (fun ls hl => ?_)
                  refine lv_goto (tgt := 15) hx hb dX1_lookOneTurnFarther_104 (by decide) ?_
                  exact ih15 (r + 1) Ub Tb bb (by omega) (by omega) (by rw [← hE15, show zN σ - r = (zN σ - (r + 1)) + 1 by omega, lt2]; (first | rw [ltNew_c (by assumption)] | rw [ltNew_m (by assumption)]); first | rw [if_pos (by assumption)] | rw [if_neg (by assumption), if_pos (by assumption)] | rw [if_neg (by assumption), if_neg (by simp [c9_1, c21_2, c29_5, c75_16]; done)]) _ _ hP hD hS ls (lv_sub hl [3, 4, 5, 6, 7, 0] rfl)
                · skip
                  refine lv_aload_n hx hb dX1_lookOneTurnFarther_78 rfl (lv_at hl 3 rfl) ?_
                  refine va_get (D := D) (ci := 0) (v := .ref (q 1)) (C := RX0) (T := TX0) (N := 9) hx hb hts hin0 hown hZ.1 hP 5 rfl rfl 1 (by decide) hf77 (fun _ h9 => h9) rfl dX1_lookOneTurnFarther_79 ?_
                  refine lv_iload hx hb dX1_lookOneTurnFarther_82 (lv_at hl 7 rfl) ?_
                  refine rv_zald hx hb hZ.1 hP 6 0 rfl rfl (r := r) (by omega) (by decide) (v := bI ((zS σ) r)) rfl dX1_lookOneTurnFarther_84 ?_
                  refine rv_ifneB (tgt := 101) hx hb dX1_lookOneTurnFarther_85 (by decide) (fun c85_17 => ?_) (fun c85_17 => ?_)
                  · skip
                    refine lv_iinc (v := nI (r + 1)) (lv' := [(5, .int (nI (r + 1))), (7, .int (sb (fun i => (oCat ((oW ω)) ((oB ω)) ph r) i && !((oB ω) ph r) i))), (6, .int (sb (oCat ((oW ω)) ((oB ω)) ph r))), (0, .ref (o 0)), (1, .ref (q 0)), (2, .int (nI tn)), (3, .int (bI bb)), (4, .int (nI ph))]) hx hb dX1_lookOneTurnFarther_101 hl (k := 7) rfl (nI_add r 1) (by decide) rfl (fun ls hl => ?_)
                    refine lv_goto (tgt := 15) hx hb dX1_lookOneTurnFarther_104 (by decide) ?_
                    exact ih15 (r + 1) Ub Tb bb (by omega) (by omega) (by rw [← hE15, show zN σ - r = (zN σ - (r + 1)) + 1 by omega, lt2]; (first | rw [ltNew_c (by assumption)] | rw [ltNew_m (by assumption)]); first | rw [if_pos (by assumption)] | rw [if_neg (by assumption), if_pos (by assumption)] | rw [if_neg (by assumption), if_neg (by simp [c9_1, c21_2, c29_5, c75_16, c85_17]; done)]) _ _ hP hD hS ls (lv_sub hl [3, 4, 5, 6, 7, 0] rfl)
                  · skip
                    refine lv_aload_n hx hb dX1_lookOneTurnFarther_88 rfl (lv_at hl 2 rfl) ?_
                    refine lv_iload hx hb dX1_lookOneTurnFarther_89 (lv_at hl 6 rfl) ?_
                    refine lv_iload hx hb dX1_lookOneTurnFarther_91 (lv_at hl 7 rfl) ?_
                    refine lv_iload hx hb dX1_lookOneTurnFarther_93 (lv_at hl 0 rfl) ?_
                    refine lv_iload_n hx hb dX1_lookOneTurnFarther_95 rfl (lv_at hl 4 rfl) ?_
                    have hFc := va_free (wc := pO cZ cI o q (oW ω, Ub, oB ω, Tb) σ) hD hS hA [0, 1, 2, 3, 4, 5, 6, 7, 8, 9, 10, 11, 12] rfl
                    refine va_callv (va_runV (As := [.int (nI ph), .int (nI r), .int (sb (fun i => (oCat ((oW ω)) ((oB ω)) ph r) i && !((oB ω) ph r) i)), .int (nI tn)]) (rest := []) ⟨hx, hb, hml, hown, hts⟩ (c_X1_keepSure l D cZ cI o q (oW ω, Ub, oB ω, Tb) σ H.size ph r (fun i => (oCat ((oW ω)) ((oB ω)) ph r) i && !((oB ω) ph r) i) tn (by first | assumption | omega) (by first | assumption | omega)) (cwV 4 hts gX1_lookOneTurnFarther_X1_keepSure rfl rfl rfl (by decide +kernel) ⟨Nat.le_of_ble_eq_true rfl, Nat.le_of_ble_eq_true rfl⟩) ⟨WrP_blind, va_recv hZ.1 hP (ci := 1) (q0 := 0) rfl rfl, WrP_start hP hD hZ⟩ rfl rfl hl.1 rfl (lv_room (Nat.le_of_ble_eq_true rfl)) dX1_lookOneTurnFarther_96 ⟨Nat.le_of_ble_eq_true rfl, Nat.le_of_ble_eq_true rfl⟩) hS (fun q _ h => hFc q h) hFc (fun u t H1 locs ht hvm hw hB hz1 hk1 hS => ?_)
                    obtain ⟨hP, hD⟩ := hB
                    rw [ht] at hP
                    replace hD := hD.weaken (fun _ _ _ h => hFc _ h)
                    generalize H1 = H at hP hS ⊢
                    have hP : va_P D vwCl (pO cZ cI o q (oW ω, keepU (Ub) ph r (fun i => (oCat ((oW ω)) ((oB ω)) ph r) i && !((oB ω) ph r) i), oB ω, kT ph r (fun i => (oCat ((oW ω)) ((oB ω)) ph r) i && !((oB ω) ph r) i) tn 8 0 (Tb)) σ) H := hP
                    have hD : va_D A (pO cZ cI o q (oW ω, keepU (Ub) ph r (fun i => (oCat ((oW ω)) ((oB ω)) ph r) i && !((oB ω) ph r) i), oB ω, kT ph r (fun i => (oCat ((oW ω)) ((oB ω)) ph r) i && !((oB ω) ph r) i) tn 8 0 (Tb)) σ) := hD
                    refine lv_iconst (v := nI 1) hx hb dX1_lookOneTurnFarther_99 (by decide) ?_
                    refine rv_top (show nI 1 = bI true from rfl) ?_
                    refine lv_istore_n (lv' := [(3, .int (bI true)), (7, .int (sb (fun i => (oCat ((oW ω)) ((oB ω)) ph r) i && !((oB ω) ph r) i))), (6, .int (sb (oCat ((oW ω)) ((oB ω)) ph r))), (0, .ref (o 0)), (1, .ref (q 0)), (2, .int (nI tn)), (4, .int (nI ph)), (5, .int (nI r))]) hx hb dX1_lookOneTurnFarther_100 rfl hl (by decide) rfl (fun ls hl => ?_)
                    refine lv_iinc (v := nI (r + 1)) (lv' := [(5, .int (nI (r + 1))), (3, .int (bI true)), (7, .int (sb (fun i => (oCat ((oW ω)) ((oB ω)) ph r) i && !((oB ω) ph r) i))), (6, .int (sb (oCat ((oW ω)) ((oB ω)) ph r))), (0, .ref (o 0)), (1, .ref (q 0)), (2, .int (nI tn)), (4, .int (nI ph))]) hx hb dX1_lookOneTurnFarther_101 hl (k := 7) rfl (nI_add r 1) (by decide) rfl (fun ls hl => ?_)
                    refine lv_goto (tgt := 15) hx hb dX1_lookOneTurnFarther_104 (by decide) ?_
                    exact ih15 (r + 1) (keepU (Ub) ph r (fun i => (oCat ((oW ω)) ((oB ω)) ph r) i && !((oB ω) ph r) i)) (kT ph r (fun i => (oCat ((oW ω)) ((oB ω)) ph r) i && !((oB ω) ph r) i) tn 8 0 (Tb)) true (by omega) (by omega) (by rw [← hE15, show zN σ - r = (zN σ - (r + 1)) + 1 by omega, lt2]; (first | rw [ltNew_c (by assumption)] | rw [ltNew_m (by assumption)]); first | rw [if_pos (by assumption)] | rw [if_neg (by assumption), if_pos (by assumption)] | rw [if_neg (by assumption), if_neg (by simp [c9_1, c21_2, c29_5, c75_16, c85_17]; done)]) _ _ hP hD hS ls (lv_sub hl [4, 5, 6, 1, 7, 0] rfl)
        exact loop15 (zN σ + 1) 0 Ua Ta ba (by omega) (by omega) rfl _ _ hP hD hS ls (lv_sub hl [1, 2, 3, 4, 5, 0] rfl)
  exact loop5 (12 + 1) 0 (oU ω) (oT ω) false (by omega) (by omega) rfl _ _ hP hD hS ls (lv_sub hl [2, 3, 4, 1, 0] rfl)

set_option maxHeartbeats 4000000 in
set_option maxRecDepth 100000 in
theorem c_X1_lookOut (l : Launch) (D : va_G) (cZ cI : ClassId) (o : Nat → Nat) (q : Nat → Nat) (ω : OS) (σ : HS) (sz : Nat) (lk : Option Nat) (hσ : zOk σ) (hlk : ∀ n, lk = some n → n < 2 ^ 31) : Met l yX1_lookOut wsX1_lookOut ({ frames := 3, cells := 0, slots := 0, locals := 74 }) (WrP D cZ cI [.ref (o 0), .ref (q 0), .int (iO lk)] (pO cZ cI o q ω σ) sz) (WrV D (pO cZ cI o q (lookW σ lk ω, (lookR σ lk ω).1, (lookR σ lk ω).2.1, (lookR σ lk ω).2.2.1) σ) (va_A (pO cZ cI o q ω σ) sz)) 0 0 (va_A (pO cZ cI o q ω σ) sz) := by
  refine Met.ofW (cc := cX1_lookOut) (maxL := 5) (ret := none) (by decide) rfl ?_
  intro p e s m args below meth c s₁ B hml hv
  obtain ⟨rfl, hsz, hP, hZ, hD0⟩ := hv
  have hx := B.exec
  have hb := B.bytes
  have hr := B.returns
  have hts := atoms_spec (ws := wsX1_lookOut) B.pre
  have hown : s.vm.findClass RX1 = some m.cls := findClass_of_methodNamed B.named
  have hlocks := B.notSynchronized
  subst hsz
  have hD := hD0.self (sz := s.heap.size)
  generalize hAe : va_A (pO cZ cI o q ω σ) s.heap.size = A at hD ⊢
  have hA : ∀ q : Nat, s.heap.size ≤ q → A q := fun q h => by rw [← hAe]; exact Or.inr h
  have hS : va_S A s.heap s.heap [] := va_S.rf
  have hP : va_P D vwCl (pO cZ cI o q ω σ) s.heap := hP
  have hl := lv_entry ([.ref (o 0), .ref (q 0), .int (iO lk)]) (n := 5) (Nat.le_of_ble_eq_true rfl)
  rw [lg_entry_eq]
  generalize (lg_sl ([.ref (o 0), .ref (q 0), .int (iO lk)]) ++ List.replicate (5 - (lg_sl ([.ref (o 0), .ref (q 0), .int (iO lk)])).length) Slot.unset).toArray = ls at hl ⊢
  have hl : lv_has ls 5 [(0, .ref (o 0)), (1, .ref (q 0)), (2, .int (iO lk))] := hl
  have hin1 : ∀ w ∈ u_ws RX1 TX1 4, w ∈ wsX1_lookOut := by decide +kernel
  have hf15 := hts (.fieldLink RX1 15 "DoorChase$Outlook" "sure" "[I") (by decide +kernel)
  have hf18 := hts (.fieldLink RX1 18 "DoorChase$Outlook" "sureBefore" "[I") (by decide +kernel)
  obtain ⟨hσ1, hσ2, hσ3, hσ4, hσ5, hσ6, hσ7⟩ := id hσ
  refine lv_aload_n hx hb dX1_lookOut_0 rfl (lv_at hl 0 rfl) ?_
  refine lv_aload_n hx hb dX1_lookOut_1 rfl (lv_at hl 1 rfl) ?_
  refine lv_iload_n hx hb dX1_lookOut_2 rfl (lv_at hl 2 rfl) ?_
  have hFc := va_free (wc := pO cZ cI o q ω σ) hD hS hA [0, 1, 2, 3, 4, 5, 6, 7, 8, 9, 10, 11, 12] rfl
  refine va_callv (va_runV (As := [.ref (q 0), .int (iO lk)]) (rest := []) ⟨hx, hb, hml, hown, hts⟩ (c_X1_layWays l D cZ cI o q ω σ s.heap.size lk (by first | assumption | omega) (by first | assumption | omega)) (cwV 2 hts gX1_lookOut_X1_layWays rfl rfl rfl (by decide +kernel) ⟨Nat.le_of_ble_eq_true rfl, Nat.le_of_ble_eq_true rfl⟩) ⟨WrP_blind, va_recv hZ.1 hP (ci := 1) (q0 := 0) rfl rfl, WrP_start hP hD hZ⟩ rfl rfl hl.1 rfl (lv_room (Nat.le_of_ble_eq_true rfl)) dX1_lookOut_3 ⟨Nat.le_of_ble_eq_true rfl, Nat.le_of_ble_eq_true rfl⟩) hS (fun q _ h => hFc q h) hFc (fun u t H1 locs ht hvm hw hB hz1 hk1 hS => ?_)
  obtain ⟨hP, hD⟩ := hB
  rw [ht] at hP
  replace hD := hD.weaken (fun _ _ _ h => hFc _ h)
  generalize H1 = H at hP hS ⊢
  have hP : va_P D vwCl (pO cZ cI o q (lw3 σ lk 12 0 ((oW ω)), oU ω, oB ω, oT ω) σ) H := hP
  have hD : va_D A (pO cZ cI o q (lw3 σ lk 12 0 ((oW ω)), oU ω, oB ω, oT ω) σ) := hD
  refine lv_aload_n hx hb dX1_lookOut_6 rfl (lv_at hl 0 rfl) ?_
  refine lv_aload_n hx hb dX1_lookOut_7 rfl (lv_at hl 1 rfl) ?_
  have hFc := va_free (wc := pO cZ cI o q (lw3 σ lk 12 0 ((oW ω)), oU ω, oB ω, oT ω) σ) hD hS hA [0, 1, 2, 3, 4, 5, 6, 7, 8, 9, 10, 11, 12] rfl
  refine va_callv (va_runV (As := [.ref (q 0)]) (rest := []) ⟨hx, hb, hml, hown, hts⟩ (c_X1_startInOneRoom l D cZ cI o q (lw3 σ lk 12 0 ((oW ω)), oU ω, oB ω, oT ω) σ H.size  (by first | assumption | omega)) (cwV 1 hts gX1_lookOut_X1_startInOneRoom rfl rfl rfl (by decide +kernel) ⟨Nat.le_of_ble_eq_true rfl, Nat.le_of_ble_eq_true rfl⟩) ⟨WrP_blind, va_recv hZ.1 hP (ci := 1) (q0 := 0) rfl rfl, WrP_start hP hD hZ⟩ rfl rfl hl.1 rfl (lv_room (Nat.le_of_ble_eq_true rfl)) dX1_lookOut_8 ⟨Nat.le_of_ble_eq_true rfl, Nat.le_of_ble_eq_true rfl⟩) hS (fun q _ h => hFc q h) hFc (fun u t H1 locs ht hvm hw hB hz1 hk1 hS => ?_)
  obtain ⟨hP, hD⟩ := hB
  rw [ht] at hP
  replace hD := hD.weaken (fun _ _ _ h => hFc _ h)
  generalize H1 = H at hP hS ⊢
  have hP : va_P D vwCl (pO cZ cI o q (lw3 σ lk 12 0 ((oW ω)), (s3 σ 12 0 ((oU ω), s1 768 0 ((oT ω)))).1, oB ω, (s3 σ 12 0 ((oU ω), s1 768 0 ((oT ω)))).2) σ) H := hP
  have hD : va_D A (pO cZ cI o q (lw3 σ lk 12 0 ((oW ω)), (s3 σ 12 0 ((oU ω), s1 768 0 ((oT ω)))).1, oB ω, (s3 σ 12 0 ((oU ω), s1 768 0 ((oT ω)))).2) σ) := hD
  refine lv_iconst (v := nI 1) hx hb dX1_lookOut_11 (by decide) ?_
  refine rv_top (show nI 1 = bI true from rfl) ?_
  refine lv_istore_n (lv' := [(3, .int (bI true)), (0, .ref (o 0)), (1, .ref (q 0)), (2, .int (iO lk))]) hx hb dX1_lookOut_12 rfl hl (by decide) rfl (fun ls hl => ?_)
  refine lv_iconst (v := nI 1) hx hb dX1_lookOut_13 (by decide) ?_
  refine lv_istore (lv' := [(4, .int (nI 1)), (3, .int (bI true)), (0, .ref (o 0)), (1, .ref (q 0)), (2, .int (iO lk))]) hx hb dX1_lookOut_14 hl (by decide) rfl (fun ls hl => ?_)
  have loop16 : ∀ (n : Nat) (tt : Nat) (b : Bool) (U : Nat → Nat → Nat → Bool) (B9 : Nat → Nat → Nat → Bool) (T : Nat → Nat → Nat → Option Nat), 769 + 1 ≤ tt + n → (tt ≤ 769) → (lo (lookW σ lk ω) σ (769 - tt) tt (U, B9, T, b) = lookR σ lk ω) → ∀ (H : Heap) (locs : List Loc), va_P D vwCl (pO cZ cI o q (lookW σ lk ω, U, B9, T) σ) H → va_D A (pO cZ cI o q (lookW σ lk ω, U, B9, T) σ) → va_S A s.heap H locs → ∀ (ls : Array Slot), lv_has ls 5 [(0, .ref (o 0)), (1, .ref (q 0)), (2, .int (iO lk)), (3, .int (bI b)), (4, .int (nI tt))] → W p l e (headSpec wsX1_lookOut ({ frames := 3, cells := 0, slots := 0, locals := 74 })).room s m ([.ref (o 0), .ref (q 0), .int (iO lk)] : List Value).toArray below meth c H locs 0 0 (MQ below (WrV D (pO cZ cI o q (lookW σ lk ω, (lookR σ lk ω).1, (lookR σ lk ω).2.1, (lookR σ lk ω).2.2.1) σ) A) ([.ref (o 0), .ref (q 0), .int (iO lk)] : List Value).toArray s 0 0 A) (F0 m 16 ls []) := by
    intro n
    induction n with
    | zero =>
      intro tt b U B9 T hmeas ht9 hE H locs hP hD hS ls hl
      exact absurd hmeas (by omega)
    | succ n ih16 =>
      intro tt b U B9 T hmeas ht9 hE H locs hP hD hS ls hl
      refine lv_iload_n hx hb dX1_lookOut_16 rfl (lv_at hl 3 rfl) ?_
      refine rv_ifeqB (tgt := 57) hx hb dX1_lookOut_17 (by decide) (fun c17_1 => ?_) (fun c17_1 => ?_)
      · skip
        have hP9 : va_P D vwCl (pO cZ cI o q (lookW σ lk ω, (lookR σ lk ω).1, (lookR σ lk ω).2.1, (lookR σ lk ω).2.2.1) σ) H := by (rw [show lookR σ lk ω = (U, B9, T, b) from by rw [← hE]; first | (rw [show 769 - tt = 0 by omega]; rfl) | (rw [show b = false by assumption]; cases (769 - tt) <;> rfl)]; exact hP)
        have hD9 : va_D A (pO cZ cI o q (lookW σ lk ω, (lookR σ lk ω).1, (lookR σ lk ω).2.1, (lookR σ lk ω).2.2.1) σ) := by (rw [show lookR σ lk ω = (U, B9, T, b) from by rw [← hE]; first | (rw [show 769 - tt = 0 by omega]; rfl) | (rw [show b = false by assumption]; cases (769 - tt) <;> rfl)]; exact hD)
        exact W.vret hx hb hr (fun t ht hW => ⟨⟨(), rfl, trivial, by rw [ht]; exact hP9, hD9⟩, hS.F ht⟩) hS.2.2 dX1_lookOut_57
      · skip
        refine lv_iload hx hb dX1_lookOut_20 (lv_at hl 4 rfl) ?_
        refine lv_sipush (v := nI 768) hx hb dX1_lookOut_22 (by decide) ?_
        refine rv_gt (tgt := 57) hx hb (by omega) (by omega) dX1_lookOut_25 (by decide) (fun c25_2 => ?_) (fun c25_2 => ?_)
        · skip
          have hP9 : va_P D vwCl (pO cZ cI o q (lookW σ lk ω, (lookR σ lk ω).1, (lookR σ lk ω).2.1, (lookR σ lk ω).2.2.1) σ) H := by (rw [show lookR σ lk ω = (U, B9, T, b) from by rw [← hE]; first | (rw [show 769 - tt = 0 by omega]; rfl) | (rw [show b = false by assumption]; cases (769 - tt) <;> rfl)]; exact hP)
          have hD9 : va_D A (pO cZ cI o q (lookW σ lk ω, (lookR σ lk ω).1, (lookR σ lk ω).2.1, (lookR σ lk ω).2.2.1) σ) := by (rw [show lookR σ lk ω = (U, B9, T, b) from by rw [← hE]; first | (rw [show 769 - tt = 0 by omega]; rfl) | (rw [show b = false by assumption]; cases (769 - tt) <;> rfl)]; exact hD)
          exact W.vret hx hb hr (fun t ht hW => ⟨⟨(), rfl, trivial, by rw [ht]; exact hP9, hD9⟩, hS.F ht⟩) hS.2.2 dX1_lookOut_57
        · skip
          refine lv_aload_n hx hb dX1_lookOut_28 rfl (lv_at hl 0 rfl) ?_
          refine va_get (D := D) (ci := 1) (v := .ref (o 2)) (C := RX1) (T := TX1) (N := 4) hx hb hts hin1 hown hZ.1 hP 0 rfl rfl 1 (by decide) hf15 (fun _ h9 => h9) rfl dX1_lookOut_29 ?_
          refine lv_iconst (v := nI 0) hx hb dX1_lookOut_32 (by decide) ?_
          refine lv_aload_n hx hb dX1_lookOut_33 rfl (lv_at hl 0 rfl) ?_
          refine va_get (D := D) (ci := 1) (v := .ref (o 3)) (C := RX1) (T := TX1) (N := 4) hx hb hts hin1 hown hZ.1 hP 0 rfl rfl 2 (by decide) hf18 (fun _ h9 => h9) rfl dX1_lookOut_34 ?_
          refine lv_iconst (v := nI 0) hx hb dX1_lookOut_37 (by decide) ?_
          refine lv_bipush (v := nI 96) hx hb dX1_lookOut_38 (by decide) ?_
          refine va_copyi hx hb (hml.trans hl.1.symm) hown (hts (.methodLink RX1 40 arraycopyName) (by decide +kernel)) (hts (.native arraycopyName) (by decide +kernel)) (hts (.static arraycopyName) (by decide +kernel)) (hts (.initialized "java/lang/System") (by decide +kernel)) hZ.1 hP hD hS 2 3 1 1 rfl rfl rfl rfl rfl (by decide) (by decide) (by decide) (by decide) (by decide) (fun _ _ => rfl) (Nat.le_of_ble_eq_true rfl) (Nat.le_of_ble_eq_true rfl) dX1_lookOut_40 (fun H locs hP hD hS => ?_)
          rw [show (nI 0).toNatClampNeg = 0 from rfl, show (nI 96).toNatClampNeg = 96 from rfl, encW_cpy] at hP hD
          have hP : va_P D vwCl (pO cZ cI o q (lookW σ lk ω, U, cpB U B9, T) σ) H := hP
          have hD : va_D A (pO cZ cI o q (lookW σ lk ω, U, cpB U B9, T) σ) := hD
          refine lv_aload_n hx hb dX1_lookOut_43 rfl (lv_at hl 0 rfl) ?_
          refine lv_aload_n hx hb dX1_lookOut_44 rfl (lv_at hl 1 rfl) ?_
          refine lv_iload hx hb dX1_lookOut_45 (lv_at hl 4 rfl) ?_
          have hFc := va_free (wc := pO cZ cI o q (lookW σ lk ω, U, cpB U B9, T) σ) hD hS hA [0, 1, 2, 3, 4, 5, 6, 7, 8, 9, 10, 11, 12] rfl
          refine va_calli (va_runV (As := [.ref (q 0), .int (nI tt)]) (rest := []) ⟨hx, hb, hml, hown, hts⟩ (c_X1_lookOneTurnFarther l D cZ cI o q (lookW σ lk ω, U, cpB U B9, T) σ H.size tt (by first | assumption | omega)) (cwV 2 hts gX1_lookOut_X1_lookOneTurnFarther rfl rfl rfl (by decide +kernel) ⟨Nat.le_of_ble_eq_true rfl, Nat.le_of_ble_eq_true rfl⟩) ⟨WrP_blind, va_recv hZ.1 hP (ci := 1) (q0 := 0) rfl rfl, WrP_start hP hD hZ⟩ rfl rfl hl.1 rfl (lv_room (Nat.le_of_ble_eq_true rfl)) dX1_lookOut_47 ⟨Nat.le_of_ble_eq_true rfl, Nat.le_of_ble_eq_true rfl⟩) hS (fun q _ h => hFc q h) hFc (fun r9 u t H1 locs ht hvm hw hB hz1 hk1 hS => ?_)
          obtain ⟨hP, hD⟩ := hB
          rw [ht] at hP
          replace hD := hD.weaken (fun _ _ _ h => hFc _ h)
          generalize H1 = H at hP hS ⊢
          have hP : va_P D vwCl (pO cZ cI o q (lookW σ lk ω, (lt3 ((lookW σ lk ω)) ((cpB U B9)) σ tt 12 0 (U, T, false)).1, cpB U B9, (lt3 ((lookW σ lk ω)) ((cpB U B9)) σ tt 12 0 (U, T, false)).2.1) σ) H := hP
          have hD : va_D A (pO cZ cI o q (lookW σ lk ω, (lt3 ((lookW σ lk ω)) ((cpB U B9)) σ tt 12 0 (U, T, false)).1, cpB U B9, (lt3 ((lookW σ lk ω)) ((cpB U B9)) σ tt 12 0 (U, T, false)).2.1) σ) := hD
          subst hw
          refine rv_top (show _ = bI ((lt3 ((lookW σ lk ω)) ((cpB U B9)) σ tt 12 0 (U, T, false)).2.2) from rfl) ?_
          refine lv_istore_n (lv' := [(3, .int (bI ((lt3 ((lookW σ lk ω)) ((cpB U B9)) σ tt 12 0 (U, T, false)).2.2))), (0, .ref (o 0)), (1, .ref (q 0)), (2, .int (iO lk)), (4, .int (nI tt))]) hx hb dX1_lookOut_50 rfl hl (by decide) rfl (fun ls hl => ?_)
          refine lv_iinc (v := nI (tt + 1)) (lv' := [(4, .int (nI (tt + 1))), (3, .int (bI ((lt3 ((lookW σ lk ω)) ((cpB U B9)) σ tt 12 0 (U, T, false)).2.2))), (0, .ref (o 0)), (1, .ref (q 0)), (2, .int (iO lk))]) hx hb dX1_lookOut_51 hl (k := 4) rfl (nI_add tt 1) (by decide) rfl (fun ls hl => ?_)
          refine lv_goto (tgt := 16) hx hb dX1_lookOut_54 (by decide) ?_
          exact ih16 (tt + 1) ((lt3 ((lookW σ lk ω)) ((cpB U B9)) σ tt 12 0 (U, T, false)).2.2) ((lt3 ((lookW σ lk ω)) ((cpB U B9)) σ tt 12 0 (U, T, false)).1) (cpB U B9) ((lt3 ((lookW σ lk ω)) ((cpB U B9)) σ tt 12 0 (U, T, false)).2.1) (by omega) (by omega) (by rw [← hE, show 769 - tt = (769 - (tt + 1)) + 1 by omega, lo, if_pos (by assumption)]) _ _ hP hD hS ls (lv_sub hl [2, 3, 4, 1, 0] rfl)
  exact loop16 (769 + 1) 1 true ((startUT σ ω).1) (oB ω) ((startUT σ ω).2) (by omega) (by omega) rfl _ _ hP hD hS ls (lv_sub hl [2, 3, 4, 1, 0] rfl)


